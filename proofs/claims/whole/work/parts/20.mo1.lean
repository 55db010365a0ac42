/-! the reference: arrays of columns or none, signs, its order -/
def zO (g : Nat → Option Nat) : Nat → Int32 := fun j => oI (g j)
theorem zO_up (g : Nat → Option Nat) (i : Nat) (x : Option Nat) : upd (zO g) i (oI x) = zO (va_up g i x) := by
  funext j
  by_cases h : j = i <;> simp [upd, zO, va_up, h]
def hBit (y : Int32) (c : Nat) : Bool := decide ((y >>> ((nI c) &&& 31)) &&& (nI 1) = 0)
def sgn0 (h1 h2 : Bool) (v1 v2 : Int32) : Int32 := match h1, h2 with
  | true, true => 0
  | true, false => -1
  | false, true => 1
  | false, false => if v1 < v2 then -1 else if v2 < v1 then 1 else 0
def sgnC (h1 h2 : Bool) (v1 v2 : Int32) (d : Bool) : Int32 := match d with
  | true => -(sgn0 h1 h2 v1 v2)
  | false => sgn0 h1 h2 v1 v2
def mS (hl_ : Nat → Bool) (vl : Nat → Int32) (kf : Nat → Nat) (kg : Nat → Bool) (i j t : Nat) : Int32 := sgnC (hl_ (9 * i + kf t)) (hl_ (9 * j + kf t)) (vl (9 * i + kf t)) (vl (9 * j + kf t)) (kg t)
def mLt (hl_ : Nat → Bool) (vl : Nat → Int32) (fi : Nat → Nat) (se : Nat → Int32) (kf : Nat → Nat) (kg : Nat → Bool) : Nat → Nat → Nat → Nat → Bool
  | 0, _, i, j => decide (fi i < fi j ∨ (fi i = fi j ∧ se i < se j))
  | d + 1, t, i, j => if mS hl_ vl kf kg i j t = 0 then mLt hl_ vl fi se kf kg d (t + 1) i j else decide (mS hl_ vl kf kg i j t < 0)
section ZO
variable {p : Program} {l : Launch} {e : Env} {R : Room} {s : State} {m : MethodId} {args : Array Value} {below : List Frame} {meth : Method} {c : Code} {H : Heap} {locs : List Loc} {cells slots : Nat} {Q : State → Prop}
variable {cc : ByteArray} {pc : Nat} {ls : Array Slot} {rest : List Value} {D : va_G} {cl : List vw_C} {A : Nat → Prop} {a : Nat} {tys : List (ClassId × FieldType)} {ws : va_W} {H0 : Heap}
theorem zk_oald (hx : p.tables.exec = Jvm.exec) (hb : c.code = cc) (hK : va_K D cl tys s) (hP : va_P D cl ws H) (q0 t0 : Nat) {cA : ClassId} {n : Nat} {f : Nat → Option Nat} (ha : ws[q0]? = some (a, .inl (cA, n, .inl (zO f)))) (ht : tys[t0]? = some (cA, .int)) {i : Nat} (hi : i < n) (hn : n < 2 ^ 31) (hdg : decode cc pc = .ok (.iaload, 1)) (kk : W p l e R s m args below meth c H locs cells slots Q (F0 m (pc + 1) ls (.int (oI (f i)) :: rest))) : W p l e R s m args below meth c H locs cells slots Q (F0 m pc ls (.int (nI i) :: .ref a :: rest)) := zk_iald hx hb hK hP q0 t0 ha ht hi hn hdg kk
theorem zk_oast (hx : p.tables.exec = Jvm.exec) (hb : c.code = cc) (hK : va_K D cl tys s) (hP : va_P D cl ws H) (hD : va_D A ws) (hS : va_S A H0 H locs) (q0 t0 : Nat) {cA : ClassId} {n : Nat} {f : Nat → Option Nat} (ha : ws[q0]? = some (a, .inl (cA, n, .inl (zO f)))) (ht : tys[t0]? = some (cA, .int)) {i : Nat} {x : Option Nat} (hi : i < n) (hn : n < 2 ^ 31) (hdg : decode cc pc = .ok (.iastore, 1)) (kk : ∀ (H1 : Heap) (locs1 : List Loc), va_P D cl (ws.set q0 (a, .inl (cA, n, .inl (zO (va_up f i x))))) H1 → va_D A (ws.set q0 (a, .inl (cA, n, .inl (zO (va_up f i x))))) → va_S A H0 H1 locs1 → W p l e R s m args below meth c H1 locs1 cells slots Q (F0 m (pc + 1) ls rest)) : W p l e R s m args below meth c H locs cells slots Q (F0 m pc ls (.int (oI x) :: .int (nI i) :: .ref a :: rest)) := zk_iast hx hb hK hP hD hS q0 t0 ha ht hi hn hdg (by rw [zO_up]; exact kk)
end ZO
theorem oI_lt0 {o : Option Nat} (ho : ∀ q, o = some q → q < 1000) (h : oI o < 0) : o = none := by
  cases o with
  | none => rfl
  | some q => exact absurd h (nI_pos (by have := ho q rfl; omega))
theorem oI_ge0 {o : Option Nat} (h : ¬ oI o < 0) : ∃ q, o = some q := by
  cases o with
  | none => exact absurd (by decide) h
  | some q => exact ⟨q, rfl⟩
theorem d_Mo_outside_0 : decode b_Mo_outside 0 = .ok (.iload_n 0, 1) := by decide +kernel
theorem d_Mo_outside_1 : decode b_Mo_outside 1 = .ok (.iload_n 1, 1) := by decide +kernel
theorem d_Mo_outside_2 : decode b_Mo_outside 2 = .ok (.if_icmp .lt 8, 3) := by decide +kernel
theorem d_Mo_outside_5 : decode b_Mo_outside 5 = .ok (.iload_n 0, 1) := by decide +kernel
theorem d_Mo_outside_6 : decode b_Mo_outside 6 = .ok (.iload_n 2, 1) := by decide +kernel
theorem d_Mo_outside_7 : decode b_Mo_outside 7 = .ok (.if_icmp .le 7, 3) := by decide +kernel
theorem d_Mo_outside_10 : decode b_Mo_outside 10 = .ok (.iconst 1, 1) := by decide +kernel
theorem d_Mo_outside_11 : decode b_Mo_outside 11 = .ok (.goto 4, 3) := by decide +kernel
theorem d_Mo_outside_14 : decode b_Mo_outside 14 = .ok (.iconst 0, 1) := by decide +kernel
theorem d_Mo_outside_15 : decode b_Mo_outside 15 = .ok (.ireturn, 1) := by decide +kernel
theorem d_Mo_blocks_0 : decode b_Mo_blocks 0 = .ok (.iload_n 0, 1) := by decide +kernel
theorem d_Mo_blocks_1 : decode b_Mo_blocks 1 = .ok (.iconst 3, 1) := by decide +kernel
theorem d_Mo_blocks_2 : decode b_Mo_blocks 2 = .ok (.iadd, 1) := by decide +kernel
theorem d_Mo_blocks_3 : decode b_Mo_blocks 3 = .ok (.iconst 4, 1) := by decide +kernel
theorem d_Mo_blocks_4 : decode b_Mo_blocks 4 = .ok (.idiv, 1) := by decide +kernel
theorem d_Mo_blocks_5 : decode b_Mo_blocks 5 = .ok (.ireturn, 1) := by decide +kernel
theorem d_Mo_hold_0 : decode b_Mo_hold 0 = .ok (.aload_n 0, 1) := by decide +kernel
theorem d_Mo_hold_1 : decode b_Mo_hold 1 = .ok (.iload_n 1, 1) := by decide +kernel
theorem d_Mo_hold_2 : decode b_Mo_hold 2 = .ok (.aload_n 0, 1) := by decide +kernel
theorem d_Mo_hold_3 : decode b_Mo_hold 3 = .ok (.getfield 110, 3) := by decide +kernel
theorem d_Mo_hold_6 : decode b_Mo_hold 6 = .ok (.if_icmp .le 7, 3) := by decide +kernel
theorem d_Mo_hold_9 : decode b_Mo_hold 9 = .ok (.iload_n 1, 1) := by decide +kernel
theorem d_Mo_hold_10 : decode b_Mo_hold 10 = .ok (.goto 7, 3) := by decide +kernel
theorem d_Mo_hold_13 : decode b_Mo_hold 13 = .ok (.aload_n 0, 1) := by decide +kernel
theorem d_Mo_hold_14 : decode b_Mo_hold 14 = .ok (.getfield 110, 3) := by decide +kernel
theorem d_Mo_hold_17 : decode b_Mo_hold 17 = .ok (.putfield 110, 3) := by decide +kernel
theorem d_Mo_hold_20 : decode b_Mo_hold 20 = .ok (.return_, 1) := by decide +kernel
theorem d_Mo_given_0 : decode b_Mo_given 0 = .ok (.aload_n 0, 1) := by decide +kernel
theorem d_Mo_given_1 : decode b_Mo_given 1 = .ok (.getfield 16, 3) := by decide +kernel
theorem d_Mo_given_4 : decode b_Mo_given 4 = .ok (.bipush 24, 2) := by decide +kernel
theorem d_Mo_given_6 : decode b_Mo_given 6 = .ok (.iload_n 1, 1) := by decide +kernel
theorem d_Mo_given_7 : decode b_Mo_given 7 = .ok (.imul, 1) := by decide +kernel
theorem d_Mo_given_8 : decode b_Mo_given 8 = .ok (.iload_n 2, 1) := by decide +kernel
theorem d_Mo_given_9 : decode b_Mo_given 9 = .ok (.iadd, 1) := by decide +kernel
theorem d_Mo_given_10 : decode b_Mo_given 10 = .ok (.iaload, 1) := by decide +kernel
theorem d_Mo_given_11 : decode b_Mo_given 11 = .ok (.iload_n 3, 1) := by decide +kernel
theorem d_Mo_given_12 : decode b_Mo_given 12 = .ok (.ishr, 1) := by decide +kernel
theorem d_Mo_given_13 : decode b_Mo_given 13 = .ok (.iconst 1, 1) := by decide +kernel
theorem d_Mo_given_14 : decode b_Mo_given 14 = .ok (.iand, 1) := by decide +kernel
theorem d_Mo_given_15 : decode b_Mo_given 15 = .ok (.ifCond .ne 7, 3) := by decide +kernel
theorem d_Mo_given_18 : decode b_Mo_given 18 = .ok (.iconst 1, 1) := by decide +kernel
theorem d_Mo_given_19 : decode b_Mo_given 19 = .ok (.goto 4, 3) := by decide +kernel
theorem d_Mo_given_22 : decode b_Mo_given 22 = .ok (.iconst 0, 1) := by decide +kernel
theorem d_Mo_given_23 : decode b_Mo_given 23 = .ok (.ireturn, 1) := by decide +kernel
theorem d_Mo_givenValue_0 : decode b_Mo_givenValue 0 = .ok (.aload_n 0, 1) := by decide +kernel
theorem d_Mo_givenValue_1 : decode b_Mo_givenValue 1 = .ok (.getfield 13, 3) := by decide +kernel
theorem d_Mo_givenValue_4 : decode b_Mo_givenValue 4 = .ok (.bipush 72, 2) := by decide +kernel
theorem d_Mo_givenValue_6 : decode b_Mo_givenValue 6 = .ok (.iload_n 1, 1) := by decide +kernel
theorem d_Mo_givenValue_7 : decode b_Mo_givenValue 7 = .ok (.imul, 1) := by decide +kernel
theorem d_Mo_givenValue_8 : decode b_Mo_givenValue 8 = .ok (.iconst 3, 1) := by decide +kernel
theorem d_Mo_givenValue_9 : decode b_Mo_givenValue 9 = .ok (.iload_n 2, 1) := by decide +kernel
theorem d_Mo_givenValue_10 : decode b_Mo_givenValue 10 = .ok (.imul, 1) := by decide +kernel
theorem d_Mo_givenValue_11 : decode b_Mo_givenValue 11 = .ok (.iadd, 1) := by decide +kernel
theorem d_Mo_givenValue_12 : decode b_Mo_givenValue 12 = .ok (.iload_n 3, 1) := by decide +kernel
theorem d_Mo_givenValue_13 : decode b_Mo_givenValue 13 = .ok (.iadd, 1) := by decide +kernel
theorem d_Mo_givenValue_14 : decode b_Mo_givenValue 14 = .ok (.iaload, 1) := by decide +kernel
theorem d_Mo_givenValue_15 : decode b_Mo_givenValue 15 = .ok (.ireturn, 1) := by decide +kernel
theorem d_Mo_part_0 : decode b_Mo_part 0 = .ok (.iload_n 1, 1) := by decide +kernel
theorem d_Mo_part_1 : decode b_Mo_part 1 = .ok (.iload_n 1, 1) := by decide +kernel
theorem d_Mo_part_2 : decode b_Mo_part 2 = .ok (.bipush 16, 2) := by decide +kernel
theorem d_Mo_part_4 : decode b_Mo_part 4 = .ok (.iushr, 1) := by decide +kernel
theorem d_Mo_part_5 : decode b_Mo_part 5 = .ok (.ixor, 1) := by decide +kernel
theorem d_Mo_part_6 : decode b_Mo_part 6 = .ok (.ldc 137, 2) := by decide +kernel
theorem d_Mo_part_8 : decode b_Mo_part 8 = .ok (.imul, 1) := by decide +kernel
theorem d_Mo_part_9 : decode b_Mo_part 9 = .ok (.istore_n 3, 1) := by decide +kernel
theorem d_Mo_part_10 : decode b_Mo_part 10 = .ok (.iload_n 3, 1) := by decide +kernel
theorem d_Mo_part_11 : decode b_Mo_part 11 = .ok (.iconst 3, 1) := by decide +kernel
theorem d_Mo_part_12 : decode b_Mo_part 12 = .ok (.bipush 7, 2) := by decide +kernel
theorem d_Mo_part_14 : decode b_Mo_part 14 = .ok (.iload_n 2, 1) := by decide +kernel
theorem d_Mo_part_15 : decode b_Mo_part 15 = .ok (.imul, 1) := by decide +kernel
theorem d_Mo_part_16 : decode b_Mo_part 16 = .ok (.iadd, 1) := by decide +kernel
theorem d_Mo_part_17 : decode b_Mo_part 17 = .ok (.iushr, 1) := by decide +kernel
theorem d_Mo_part_18 : decode b_Mo_part 18 = .ok (.aload_n 0, 1) := by decide +kernel
theorem d_Mo_part_19 : decode b_Mo_part 19 = .ok (.getfield 74, 3) := by decide +kernel
theorem d_Mo_part_22 : decode b_Mo_part 22 = .ok (.iconst 1, 1) := by decide +kernel
theorem d_Mo_part_23 : decode b_Mo_part 23 = .ok (.isub, 1) := by decide +kernel
theorem d_Mo_part_24 : decode b_Mo_part 24 = .ok (.irem, 1) := by decide +kernel
theorem d_Mo_part_25 : decode b_Mo_part 25 = .ok (.ireturn, 1) := by decide +kernel
theorem d_Mo_keysOf_0 : decode b_Mo_keysOf 0 = .ok (.aload_n 0, 1) := by decide +kernel
theorem d_Mo_keysOf_1 : decode b_Mo_keysOf 1 = .ok (.getfield 31, 3) := by decide +kernel
theorem d_Mo_keysOf_4 : decode b_Mo_keysOf 4 = .ok (.iload_n 1, 1) := by decide +kernel
theorem d_Mo_keysOf_5 : decode b_Mo_keysOf 5 = .ok (.iaload, 1) := by decide +kernel
theorem d_Mo_keysOf_6 : decode b_Mo_keysOf 6 = .ok (.ifCond .lt 7, 3) := by decide +kernel
theorem d_Mo_keysOf_9 : decode b_Mo_keysOf 9 = .ok (.iconst 1, 1) := by decide +kernel
theorem d_Mo_keysOf_10 : decode b_Mo_keysOf 10 = .ok (.goto 4, 3) := by decide +kernel
theorem d_Mo_keysOf_13 : decode b_Mo_keysOf 13 = .ok (.iconst 0, 1) := by decide +kernel
theorem d_Mo_keysOf_14 : decode b_Mo_keysOf 14 = .ok (.aload_n 0, 1) := by decide +kernel
theorem d_Mo_keysOf_15 : decode b_Mo_keysOf 15 = .ok (.getfield 34, 3) := by decide +kernel
theorem d_Mo_keysOf_18 : decode b_Mo_keysOf 18 = .ok (.iload_n 1, 1) := by decide +kernel
theorem d_Mo_keysOf_19 : decode b_Mo_keysOf 19 = .ok (.iaload, 1) := by decide +kernel
theorem d_Mo_keysOf_20 : decode b_Mo_keysOf 20 = .ok (.ifCond .lt 7, 3) := by decide +kernel
theorem d_Mo_keysOf_23 : decode b_Mo_keysOf 23 = .ok (.iconst 1, 1) := by decide +kernel
theorem d_Mo_keysOf_24 : decode b_Mo_keysOf 24 = .ok (.goto 4, 3) := by decide +kernel
theorem d_Mo_keysOf_27 : decode b_Mo_keysOf 27 = .ok (.iconst 0, 1) := by decide +kernel
theorem d_Mo_keysOf_28 : decode b_Mo_keysOf 28 = .ok (.iadd, 1) := by decide +kernel
theorem d_Mo_keysOf_29 : decode b_Mo_keysOf 29 = .ok (.ireturn, 1) := by decide +kernel
theorem d_Mo_keyIs_0 : decode b_Mo_keyIs 0 = .ok (.iload_n 1, 1) := by decide +kernel
theorem d_Mo_keyIs_1 : decode b_Mo_keyIs 1 = .ok (.aload_n 0, 1) := by decide +kernel
theorem d_Mo_keyIs_2 : decode b_Mo_keyIs 2 = .ok (.getfield 165, 3) := by decide +kernel
theorem d_Mo_keyIs_5 : decode b_Mo_keyIs 5 = .ok (.if_icmp .ge 27, 3) := by decide +kernel
theorem d_Mo_keyIs_8 : decode b_Mo_keyIs 8 = .ok (.aload_n 0, 1) := by decide +kernel
theorem d_Mo_keyIs_9 : decode b_Mo_keyIs 9 = .ok (.getfield 68, 3) := by decide +kernel
theorem d_Mo_keyIs_12 : decode b_Mo_keyIs 12 = .ok (.iload_n 1, 1) := by decide +kernel
theorem d_Mo_keyIs_13 : decode b_Mo_keyIs 13 = .ok (.iaload, 1) := by decide +kernel
theorem d_Mo_keyIs_14 : decode b_Mo_keyIs 14 = .ok (.iload_n 2, 1) := by decide +kernel
theorem d_Mo_keyIs_15 : decode b_Mo_keyIs 15 = .ok (.if_icmp .ne 17, 3) := by decide +kernel
theorem d_Mo_keyIs_18 : decode b_Mo_keyIs 18 = .ok (.aload_n 0, 1) := by decide +kernel
theorem d_Mo_keyIs_19 : decode b_Mo_keyIs 19 = .ok (.getfield 71, 3) := by decide +kernel
theorem d_Mo_keyIs_22 : decode b_Mo_keyIs 22 = .ok (.iload_n 1, 1) := by decide +kernel
theorem d_Mo_keyIs_23 : decode b_Mo_keyIs 23 = .ok (.baload, 1) := by decide +kernel
theorem d_Mo_keyIs_24 : decode b_Mo_keyIs 24 = .ok (.iload_n 3, 1) := by decide +kernel
theorem d_Mo_keyIs_25 : decode b_Mo_keyIs 25 = .ok (.if_icmp .ne 7, 3) := by decide +kernel
theorem d_Mo_keyIs_28 : decode b_Mo_keyIs 28 = .ok (.iconst 1, 1) := by decide +kernel
theorem d_Mo_keyIs_29 : decode b_Mo_keyIs 29 = .ok (.goto 4, 3) := by decide +kernel
theorem d_Mo_keyIs_32 : decode b_Mo_keyIs 32 = .ok (.iconst 0, 1) := by decide +kernel
theorem d_Mo_keyIs_33 : decode b_Mo_keyIs 33 = .ok (.ireturn, 1) := by decide +kernel
theorem d_Mo_key_0 : decode b_Mo_key 0 = .ok (.aload_n 0, 1) := by decide +kernel
theorem d_Mo_key_1 : decode b_Mo_key 1 = .ok (.getfield 68, 3) := by decide +kernel
theorem d_Mo_key_4 : decode b_Mo_key 4 = .ok (.aload_n 0, 1) := by decide +kernel
theorem d_Mo_key_5 : decode b_Mo_key 5 = .ok (.getfield 165, 3) := by decide +kernel
theorem d_Mo_key_8 : decode b_Mo_key 8 = .ok (.iload_n 1, 1) := by decide +kernel
theorem d_Mo_key_9 : decode b_Mo_key 9 = .ok (.iastore, 1) := by decide +kernel
theorem d_Mo_key_10 : decode b_Mo_key 10 = .ok (.aload_n 0, 1) := by decide +kernel
theorem d_Mo_key_11 : decode b_Mo_key 11 = .ok (.getfield 71, 3) := by decide +kernel
theorem d_Mo_key_14 : decode b_Mo_key 14 = .ok (.aload_n 0, 1) := by decide +kernel
theorem d_Mo_key_15 : decode b_Mo_key 15 = .ok (.getfield 165, 3) := by decide +kernel
theorem d_Mo_key_18 : decode b_Mo_key 18 = .ok (.iload_n 2, 1) := by decide +kernel
theorem d_Mo_key_19 : decode b_Mo_key 19 = .ok (.bastore, 1) := by decide +kernel
theorem d_Mo_key_20 : decode b_Mo_key 20 = .ok (.aload_n 0, 1) := by decide +kernel
theorem d_Mo_key_21 : decode b_Mo_key 21 = .ok (.dup, 1) := by decide +kernel
theorem d_Mo_key_22 : decode b_Mo_key 22 = .ok (.getfield 165, 3) := by decide +kernel
theorem d_Mo_key_25 : decode b_Mo_key 25 = .ok (.iconst 1, 1) := by decide +kernel
theorem d_Mo_key_26 : decode b_Mo_key 26 = .ok (.iadd, 1) := by decide +kernel
theorem d_Mo_key_27 : decode b_Mo_key 27 = .ok (.putfield 165, 3) := by decide +kernel
theorem d_Mo_key_30 : decode b_Mo_key 30 = .ok (.return_, 1) := by decide +kernel
theorem d_Mo_byColumn_0 : decode b_Mo_byColumn 0 = .ok (.bipush 9, 2) := by decide +kernel
theorem d_Mo_byColumn_2 : decode b_Mo_byColumn 2 = .ok (.iload_n 1, 1) := by decide +kernel
theorem d_Mo_byColumn_3 : decode b_Mo_byColumn 3 = .ok (.imul, 1) := by decide +kernel
theorem d_Mo_byColumn_4 : decode b_Mo_byColumn 4 = .ok (.iload_n 3, 1) := by decide +kernel
theorem d_Mo_byColumn_5 : decode b_Mo_byColumn 5 = .ok (.iadd, 1) := by decide +kernel
theorem d_Mo_byColumn_6 : decode b_Mo_byColumn 6 = .ok (.istore 5, 2) := by decide +kernel
theorem d_Mo_byColumn_8 : decode b_Mo_byColumn 8 = .ok (.bipush 9, 2) := by decide +kernel
theorem d_Mo_byColumn_10 : decode b_Mo_byColumn 10 = .ok (.iload_n 2, 1) := by decide +kernel
theorem d_Mo_byColumn_11 : decode b_Mo_byColumn 11 = .ok (.imul, 1) := by decide +kernel
theorem d_Mo_byColumn_12 : decode b_Mo_byColumn 12 = .ok (.iload_n 3, 1) := by decide +kernel
theorem d_Mo_byColumn_13 : decode b_Mo_byColumn 13 = .ok (.iadd, 1) := by decide +kernel
theorem d_Mo_byColumn_14 : decode b_Mo_byColumn 14 = .ok (.istore 6, 2) := by decide +kernel
theorem d_Mo_byColumn_16 : decode b_Mo_byColumn 16 = .ok (.iconst 0, 1) := by decide +kernel
theorem d_Mo_byColumn_17 : decode b_Mo_byColumn 17 = .ok (.istore 7, 2) := by decide +kernel
theorem d_Mo_byColumn_19 : decode b_Mo_byColumn 19 = .ok (.aload_n 0, 1) := by decide +kernel
theorem d_Mo_byColumn_20 : decode b_Mo_byColumn 20 = .ok (.getfield 56, 3) := by decide +kernel
theorem d_Mo_byColumn_23 : decode b_Mo_byColumn 23 = .ok (.iload 5, 2) := by decide +kernel
theorem d_Mo_byColumn_25 : decode b_Mo_byColumn 25 = .ok (.baload, 1) := by decide +kernel
theorem d_Mo_byColumn_26 : decode b_Mo_byColumn 26 = .ok (.ifCond .ne 13, 3) := by decide +kernel
theorem d_Mo_byColumn_29 : decode b_Mo_byColumn 29 = .ok (.aload_n 0, 1) := by decide +kernel
theorem d_Mo_byColumn_30 : decode b_Mo_byColumn 30 = .ok (.getfield 56, 3) := by decide +kernel
theorem d_Mo_byColumn_33 : decode b_Mo_byColumn 33 = .ok (.iload 6, 2) := by decide +kernel
theorem d_Mo_byColumn_35 : decode b_Mo_byColumn 35 = .ok (.baload, 1) := by decide +kernel
theorem d_Mo_byColumn_36 : decode b_Mo_byColumn 36 = .ok (.ifCond .eq 37, 3) := by decide +kernel
theorem d_Mo_byColumn_39 : decode b_Mo_byColumn 39 = .ok (.aload_n 0, 1) := by decide +kernel
theorem d_Mo_byColumn_40 : decode b_Mo_byColumn 40 = .ok (.getfield 56, 3) := by decide +kernel
theorem d_Mo_byColumn_43 : decode b_Mo_byColumn 43 = .ok (.iload 5, 2) := by decide +kernel
theorem d_Mo_byColumn_45 : decode b_Mo_byColumn 45 = .ok (.baload, 1) := by decide +kernel
theorem d_Mo_byColumn_46 : decode b_Mo_byColumn 46 = .ok (.ifCond .eq 21, 3) := by decide +kernel
theorem d_Mo_byColumn_49 : decode b_Mo_byColumn 49 = .ok (.aload_n 0, 1) := by decide +kernel
theorem d_Mo_byColumn_50 : decode b_Mo_byColumn 50 = .ok (.getfield 56, 3) := by decide +kernel
theorem d_Mo_byColumn_53 : decode b_Mo_byColumn 53 = .ok (.iload 6, 2) := by decide +kernel
theorem d_Mo_byColumn_55 : decode b_Mo_byColumn 55 = .ok (.baload, 1) := by decide +kernel
theorem d_Mo_byColumn_56 : decode b_Mo_byColumn 56 = .ok (.ifCond .eq 7, 3) := by decide +kernel
theorem d_Mo_byColumn_59 : decode b_Mo_byColumn 59 = .ok (.iconst 0, 1) := by decide +kernel
theorem d_Mo_byColumn_60 : decode b_Mo_byColumn 60 = .ok (.goto 8, 3) := by decide +kernel
theorem d_Mo_byColumn_63 : decode b_Mo_byColumn 63 = .ok (.iconst (-1), 1) := by decide +kernel
theorem d_Mo_byColumn_64 : decode b_Mo_byColumn 64 = .ok (.goto 4, 3) := by decide +kernel
theorem d_Mo_byColumn_67 : decode b_Mo_byColumn 67 = .ok (.iconst 1, 1) := by decide +kernel
theorem d_Mo_byColumn_68 : decode b_Mo_byColumn 68 = .ok (.istore 7, 2) := by decide +kernel
theorem d_Mo_byColumn_70 : decode b_Mo_byColumn 70 = .ok (.goto 48, 3) := by decide +kernel
theorem d_Mo_byColumn_73 : decode b_Mo_byColumn 73 = .ok (.aload_n 0, 1) := by decide +kernel
theorem d_Mo_byColumn_74 : decode b_Mo_byColumn 74 = .ok (.getfield 53, 3) := by decide +kernel
theorem d_Mo_byColumn_77 : decode b_Mo_byColumn 77 = .ok (.iload 5, 2) := by decide +kernel
theorem d_Mo_byColumn_79 : decode b_Mo_byColumn 79 = .ok (.iaload, 1) := by decide +kernel
theorem d_Mo_byColumn_80 : decode b_Mo_byColumn 80 = .ok (.aload_n 0, 1) := by decide +kernel
theorem d_Mo_byColumn_81 : decode b_Mo_byColumn 81 = .ok (.getfield 53, 3) := by decide +kernel
theorem d_Mo_byColumn_84 : decode b_Mo_byColumn 84 = .ok (.iload 6, 2) := by decide +kernel
theorem d_Mo_byColumn_86 : decode b_Mo_byColumn 86 = .ok (.iaload, 1) := by decide +kernel
theorem d_Mo_byColumn_87 : decode b_Mo_byColumn 87 = .ok (.if_icmp .ge 7, 3) := by decide +kernel
theorem d_Mo_byColumn_90 : decode b_Mo_byColumn 90 = .ok (.iconst (-1), 1) := by decide +kernel
theorem d_Mo_byColumn_91 : decode b_Mo_byColumn 91 = .ok (.goto 25, 3) := by decide +kernel
theorem d_Mo_byColumn_94 : decode b_Mo_byColumn 94 = .ok (.aload_n 0, 1) := by decide +kernel
theorem d_Mo_byColumn_95 : decode b_Mo_byColumn 95 = .ok (.getfield 53, 3) := by decide +kernel
theorem d_Mo_byColumn_98 : decode b_Mo_byColumn 98 = .ok (.iload 5, 2) := by decide +kernel
theorem d_Mo_byColumn_100 : decode b_Mo_byColumn 100 = .ok (.iaload, 1) := by decide +kernel
theorem d_Mo_byColumn_101 : decode b_Mo_byColumn 101 = .ok (.aload_n 0, 1) := by decide +kernel
theorem d_Mo_byColumn_102 : decode b_Mo_byColumn 102 = .ok (.getfield 53, 3) := by decide +kernel
theorem d_Mo_byColumn_105 : decode b_Mo_byColumn 105 = .ok (.iload 6, 2) := by decide +kernel
theorem d_Mo_byColumn_107 : decode b_Mo_byColumn 107 = .ok (.iaload, 1) := by decide +kernel
theorem d_Mo_byColumn_108 : decode b_Mo_byColumn 108 = .ok (.if_icmp .le 7, 3) := by decide +kernel
theorem d_Mo_byColumn_111 : decode b_Mo_byColumn 111 = .ok (.iconst 1, 1) := by decide +kernel
theorem d_Mo_byColumn_112 : decode b_Mo_byColumn 112 = .ok (.goto 4, 3) := by decide +kernel
theorem d_Mo_byColumn_115 : decode b_Mo_byColumn 115 = .ok (.iconst 0, 1) := by decide +kernel
theorem d_Mo_byColumn_116 : decode b_Mo_byColumn 116 = .ok (.istore 7, 2) := by decide +kernel
theorem d_Mo_byColumn_118 : decode b_Mo_byColumn 118 = .ok (.iload 4, 2) := by decide +kernel
theorem d_Mo_byColumn_120 : decode b_Mo_byColumn 120 = .ok (.ifCond .eq 9, 3) := by decide +kernel
theorem d_Mo_byColumn_123 : decode b_Mo_byColumn 123 = .ok (.iload 7, 2) := by decide +kernel
theorem d_Mo_byColumn_125 : decode b_Mo_byColumn 125 = .ok (.ineg, 1) := by decide +kernel
theorem d_Mo_byColumn_126 : decode b_Mo_byColumn 126 = .ok (.goto 5, 3) := by decide +kernel
theorem d_Mo_byColumn_129 : decode b_Mo_byColumn 129 = .ok (.iload 7, 2) := by decide +kernel
theorem d_Mo_byColumn_131 : decode b_Mo_byColumn 131 = .ok (.ireturn, 1) := by decide +kernel
theorem d_Mo_samePlace_0 : decode b_Mo_samePlace 0 = .ok (.iload_n 3, 1) := by decide +kernel
theorem d_Mo_samePlace_1 : decode b_Mo_samePlace 1 = .ok (.ifCond .lt 14, 3) := by decide +kernel
theorem d_Mo_samePlace_4 : decode b_Mo_samePlace 4 = .ok (.aload_n 0, 1) := by decide +kernel
theorem d_Mo_samePlace_5 : decode b_Mo_samePlace 5 = .ok (.iload_n 1, 1) := by decide +kernel
theorem d_Mo_samePlace_6 : decode b_Mo_samePlace 6 = .ok (.iload_n 2, 1) := by decide +kernel
theorem d_Mo_samePlace_7 : decode b_Mo_samePlace 7 = .ok (.iload_n 3, 1) := by decide +kernel
theorem d_Mo_samePlace_8 : decode b_Mo_samePlace 8 = .ok (.iconst 0, 1) := by decide +kernel
theorem d_Mo_samePlace_9 : decode b_Mo_samePlace 9 = .ok (.invokevirtual 168, 3) := by decide +kernel
theorem d_Mo_samePlace_12 : decode b_Mo_samePlace 12 = .ok (.ifCond .ne 7, 3) := by decide +kernel
theorem d_Mo_samePlace_15 : decode b_Mo_samePlace 15 = .ok (.iconst 1, 1) := by decide +kernel
theorem d_Mo_samePlace_16 : decode b_Mo_samePlace 16 = .ok (.goto 4, 3) := by decide +kernel
theorem d_Mo_samePlace_19 : decode b_Mo_samePlace 19 = .ok (.iconst 0, 1) := by decide +kernel
theorem d_Mo_samePlace_20 : decode b_Mo_samePlace 20 = .ok (.ireturn, 1) := by decide +kernel
theorem d_Mo_before_0 : decode b_Mo_before 0 = .ok (.iconst 0, 1) := by decide +kernel
theorem d_Mo_before_1 : decode b_Mo_before 1 = .ok (.istore_n 3, 1) := by decide +kernel
theorem d_Mo_before_2 : decode b_Mo_before 2 = .ok (.iload_n 3, 1) := by decide +kernel
theorem d_Mo_before_3 : decode b_Mo_before 3 = .ok (.aload_n 0, 1) := by decide +kernel
theorem d_Mo_before_4 : decode b_Mo_before 4 = .ok (.getfield 165, 3) := by decide +kernel
theorem d_Mo_before_7 : decode b_Mo_before 7 = .ok (.if_icmp .ge 45, 3) := by decide +kernel
theorem d_Mo_before_10 : decode b_Mo_before 10 = .ok (.aload_n 0, 1) := by decide +kernel
theorem d_Mo_before_11 : decode b_Mo_before 11 = .ok (.iload_n 1, 1) := by decide +kernel
theorem d_Mo_before_12 : decode b_Mo_before 12 = .ok (.iload_n 2, 1) := by decide +kernel
theorem d_Mo_before_13 : decode b_Mo_before 13 = .ok (.aload_n 0, 1) := by decide +kernel
theorem d_Mo_before_14 : decode b_Mo_before 14 = .ok (.getfield 68, 3) := by decide +kernel
theorem d_Mo_before_17 : decode b_Mo_before 17 = .ok (.iload_n 3, 1) := by decide +kernel
theorem d_Mo_before_18 : decode b_Mo_before 18 = .ok (.iaload, 1) := by decide +kernel
theorem d_Mo_before_19 : decode b_Mo_before 19 = .ok (.aload_n 0, 1) := by decide +kernel
theorem d_Mo_before_20 : decode b_Mo_before 20 = .ok (.getfield 71, 3) := by decide +kernel
theorem d_Mo_before_23 : decode b_Mo_before 23 = .ok (.iload_n 3, 1) := by decide +kernel
theorem d_Mo_before_24 : decode b_Mo_before 24 = .ok (.baload, 1) := by decide +kernel
theorem d_Mo_before_25 : decode b_Mo_before 25 = .ok (.invokevirtual 168, 3) := by decide +kernel
theorem d_Mo_before_28 : decode b_Mo_before 28 = .ok (.istore 4, 2) := by decide +kernel
theorem d_Mo_before_30 : decode b_Mo_before 30 = .ok (.iload 4, 2) := by decide +kernel
theorem d_Mo_before_32 : decode b_Mo_before 32 = .ok (.ifCond .eq 14, 3) := by decide +kernel
theorem d_Mo_before_35 : decode b_Mo_before 35 = .ok (.iload 4, 2) := by decide +kernel
theorem d_Mo_before_37 : decode b_Mo_before 37 = .ok (.ifCond .ge 7, 3) := by decide +kernel
theorem d_Mo_before_40 : decode b_Mo_before 40 = .ok (.iconst 1, 1) := by decide +kernel
theorem d_Mo_before_41 : decode b_Mo_before 41 = .ok (.goto 4, 3) := by decide +kernel
theorem d_Mo_before_44 : decode b_Mo_before 44 = .ok (.iconst 0, 1) := by decide +kernel
theorem d_Mo_before_45 : decode b_Mo_before 45 = .ok (.ireturn, 1) := by decide +kernel
theorem d_Mo_before_46 : decode b_Mo_before 46 = .ok (.iinc 3 1, 3) := by decide +kernel
theorem d_Mo_before_49 : decode b_Mo_before 49 = .ok (.goto (-47), 3) := by decide +kernel
theorem d_Mo_before_52 : decode b_Mo_before 52 = .ok (.aload_n 0, 1) := by decide +kernel
theorem d_Mo_before_53 : decode b_Mo_before 53 = .ok (.getfield 59, 3) := by decide +kernel
theorem d_Mo_before_56 : decode b_Mo_before 56 = .ok (.iload_n 1, 1) := by decide +kernel
theorem d_Mo_before_57 : decode b_Mo_before 57 = .ok (.iaload, 1) := by decide +kernel
theorem d_Mo_before_58 : decode b_Mo_before 58 = .ok (.aload_n 0, 1) := by decide +kernel
theorem d_Mo_before_59 : decode b_Mo_before 59 = .ok (.getfield 59, 3) := by decide +kernel
theorem d_Mo_before_62 : decode b_Mo_before 62 = .ok (.iload_n 2, 1) := by decide +kernel
theorem d_Mo_before_63 : decode b_Mo_before 63 = .ok (.iaload, 1) := by decide +kernel
theorem d_Mo_before_64 : decode b_Mo_before 64 = .ok (.if_icmp .lt 33, 3) := by decide +kernel
theorem d_Mo_before_67 : decode b_Mo_before 67 = .ok (.aload_n 0, 1) := by decide +kernel
theorem d_Mo_before_68 : decode b_Mo_before 68 = .ok (.getfield 59, 3) := by decide +kernel
theorem d_Mo_before_71 : decode b_Mo_before 71 = .ok (.iload_n 1, 1) := by decide +kernel
theorem d_Mo_before_72 : decode b_Mo_before 72 = .ok (.iaload, 1) := by decide +kernel
theorem d_Mo_before_73 : decode b_Mo_before 73 = .ok (.aload_n 0, 1) := by decide +kernel
theorem d_Mo_before_74 : decode b_Mo_before 74 = .ok (.getfield 59, 3) := by decide +kernel
theorem d_Mo_before_77 : decode b_Mo_before 77 = .ok (.iload_n 2, 1) := by decide +kernel
theorem d_Mo_before_78 : decode b_Mo_before 78 = .ok (.iaload, 1) := by decide +kernel
theorem d_Mo_before_79 : decode b_Mo_before 79 = .ok (.if_icmp .ne 22, 3) := by decide +kernel
theorem d_Mo_before_82 : decode b_Mo_before 82 = .ok (.aload_n 0, 1) := by decide +kernel
theorem d_Mo_before_83 : decode b_Mo_before 83 = .ok (.getfield 62, 3) := by decide +kernel
theorem d_Mo_before_86 : decode b_Mo_before 86 = .ok (.iload_n 1, 1) := by decide +kernel
theorem d_Mo_before_87 : decode b_Mo_before 87 = .ok (.iaload, 1) := by decide +kernel
theorem d_Mo_before_88 : decode b_Mo_before 88 = .ok (.aload_n 0, 1) := by decide +kernel
theorem d_Mo_before_89 : decode b_Mo_before 89 = .ok (.getfield 62, 3) := by decide +kernel
theorem d_Mo_before_92 : decode b_Mo_before 92 = .ok (.iload_n 2, 1) := by decide +kernel
theorem d_Mo_before_93 : decode b_Mo_before 93 = .ok (.iaload, 1) := by decide +kernel
theorem d_Mo_before_94 : decode b_Mo_before 94 = .ok (.if_icmp .ge 7, 3) := by decide +kernel
theorem d_Mo_before_97 : decode b_Mo_before 97 = .ok (.iconst 1, 1) := by decide +kernel
theorem d_Mo_before_98 : decode b_Mo_before 98 = .ok (.goto 4, 3) := by decide +kernel
theorem d_Mo_before_101 : decode b_Mo_before 101 = .ok (.iconst 0, 1) := by decide +kernel
theorem d_Mo_before_102 : decode b_Mo_before 102 = .ok (.ireturn, 1) := by decide +kernel
theorem d_Mo_result_0 : decode b_Mo_result 0 = .ok (.bipush 9, 2) := by decide +kernel
theorem d_Mo_result_2 : decode b_Mo_result 2 = .ok (.aload_n 0, 1) := by decide +kernel
theorem d_Mo_result_3 : decode b_Mo_result 3 = .ok (.getfield 65, 3) := by decide +kernel
theorem d_Mo_result_6 : decode b_Mo_result 6 = .ok (.iload_n 2, 1) := by decide +kernel
theorem d_Mo_result_7 : decode b_Mo_result 7 = .ok (.iaload, 1) := by decide +kernel
theorem d_Mo_result_8 : decode b_Mo_result 8 = .ok (.imul, 1) := by decide +kernel
theorem d_Mo_result_9 : decode b_Mo_result 9 = .ok (.bipush 6, 2) := by decide +kernel
theorem d_Mo_result_11 : decode b_Mo_result 11 = .ok (.iadd, 1) := by decide +kernel
theorem d_Mo_result_12 : decode b_Mo_result 12 = .ok (.iload_n 1, 1) := by decide +kernel
theorem d_Mo_result_13 : decode b_Mo_result 13 = .ok (.iadd, 1) := by decide +kernel
theorem d_Mo_result_14 : decode b_Mo_result 14 = .ok (.istore 5, 2) := by decide +kernel
theorem d_Mo_result_16 : decode b_Mo_result 16 = .ok (.aload_n 0, 1) := by decide +kernel
theorem d_Mo_result_17 : decode b_Mo_result 17 = .ok (.getfield 56, 3) := by decide +kernel
theorem d_Mo_result_20 : decode b_Mo_result 20 = .ok (.iload 5, 2) := by decide +kernel
theorem d_Mo_result_22 : decode b_Mo_result 22 = .ok (.iload_n 3, 1) := by decide +kernel
theorem d_Mo_result_23 : decode b_Mo_result 23 = .ok (.ifCond .ne 7, 3) := by decide +kernel
theorem d_Mo_result_26 : decode b_Mo_result 26 = .ok (.iconst 1, 1) := by decide +kernel
theorem d_Mo_result_27 : decode b_Mo_result 27 = .ok (.goto 4, 3) := by decide +kernel
theorem d_Mo_result_30 : decode b_Mo_result 30 = .ok (.iconst 0, 1) := by decide +kernel
theorem d_Mo_result_31 : decode b_Mo_result 31 = .ok (.bastore, 1) := by decide +kernel
theorem d_Mo_result_32 : decode b_Mo_result 32 = .ok (.aload_n 0, 1) := by decide +kernel
theorem d_Mo_result_33 : decode b_Mo_result 33 = .ok (.getfield 53, 3) := by decide +kernel
theorem d_Mo_result_36 : decode b_Mo_result 36 = .ok (.iload 5, 2) := by decide +kernel
theorem d_Mo_result_38 : decode b_Mo_result 38 = .ok (.iload_n 3, 1) := by decide +kernel
theorem d_Mo_result_39 : decode b_Mo_result 39 = .ok (.ifCond .eq 8, 3) := by decide +kernel
theorem d_Mo_result_42 : decode b_Mo_result 42 = .ok (.iload 4, 2) := by decide +kernel
theorem d_Mo_result_44 : decode b_Mo_result 44 = .ok (.goto 4, 3) := by decide +kernel
theorem d_Mo_result_47 : decode b_Mo_result 47 = .ok (.iconst 0, 1) := by decide +kernel
theorem d_Mo_result_48 : decode b_Mo_result 48 = .ok (.iastore, 1) := by decide +kernel
theorem d_Mo_result_49 : decode b_Mo_result 49 = .ok (.return_, 1) := by decide +kernel
theorem d_Mo_transfers_0 : decode b_Mo_transfers 0 = .ok (.aload_n 0, 1) := by decide +kernel
theorem d_Mo_transfers_1 : decode b_Mo_transfers 1 = .ok (.getfield 126, 3) := by decide +kernel
theorem d_Mo_transfers_4 : decode b_Mo_transfers 4 = .ok (.ireturn, 1) := by decide +kernel
theorem d_Mo_held_0 : decode b_Mo_held 0 = .ok (.aload_n 0, 1) := by decide +kernel
theorem d_Mo_held_1 : decode b_Mo_held 1 = .ok (.getfield 110, 3) := by decide +kernel
theorem d_Mo_held_4 : decode b_Mo_held 4 = .ok (.ireturn, 1) := by decide +kernel
theorem d_Mo_sorts_0 : decode b_Mo_sorts 0 = .ok (.aload_n 0, 1) := by decide +kernel
theorem d_Mo_sorts_1 : decode b_Mo_sorts 1 = .ok (.getfield 175, 3) := by decide +kernel
theorem d_Mo_sorts_4 : decode b_Mo_sorts 4 = .ok (.ireturn, 1) := by decide +kernel
theorem d_Mo_rows_0 : decode b_Mo_rows 0 = .ok (.iload_n 1, 1) := by decide +kernel
theorem d_Mo_rows_1 : decode b_Mo_rows 1 = .ok (.iconst 0, 1) := by decide +kernel
theorem d_Mo_rows_2 : decode b_Mo_rows 2 = .ok (.iconst 1, 1) := by decide +kernel
theorem d_Mo_rows_3 : decode b_Mo_rows 3 = .ok (.invokestatic 81, 3) := by decide +kernel
theorem d_Mo_rows_6 : decode b_Mo_rows 6 = .ok (.ifCond .eq 7, 3) := by decide +kernel
theorem d_Mo_rows_9 : decode b_Mo_rows 9 = .ok (.iconst (-1), 1) := by decide +kernel
theorem d_Mo_rows_10 : decode b_Mo_rows 10 = .ok (.goto 9, 3) := by decide +kernel
theorem d_Mo_rows_13 : decode b_Mo_rows 13 = .ok (.aload_n 0, 1) := by decide +kernel
theorem d_Mo_rows_14 : decode b_Mo_rows 14 = .ok (.getfield 7, 3) := by decide +kernel
theorem d_Mo_rows_17 : decode b_Mo_rows 17 = .ok (.iload_n 1, 1) := by decide +kernel
theorem d_Mo_rows_18 : decode b_Mo_rows 18 = .ok (.iaload, 1) := by decide +kernel
theorem d_Mo_rows_19 : decode b_Mo_rows 19 = .ok (.ireturn, 1) := by decide +kernel
theorem d_Mo_clear_0 : decode b_Mo_clear 0 = .ok (.iload_n 1, 1) := by decide +kernel
theorem d_Mo_clear_1 : decode b_Mo_clear 1 = .ok (.iconst 0, 1) := by decide +kernel
theorem d_Mo_clear_2 : decode b_Mo_clear 2 = .ok (.iconst 1, 1) := by decide +kernel
theorem d_Mo_clear_3 : decode b_Mo_clear 3 = .ok (.invokestatic 81, 3) := by decide +kernel
theorem d_Mo_clear_6 : decode b_Mo_clear 6 = .ok (.ifCond .eq 5, 3) := by decide +kernel
theorem d_Mo_clear_9 : decode b_Mo_clear 9 = .ok (.iconst 0, 1) := by decide +kernel
theorem d_Mo_clear_10 : decode b_Mo_clear 10 = .ok (.ireturn, 1) := by decide +kernel
theorem d_Mo_clear_11 : decode b_Mo_clear 11 = .ok (.aload_n 0, 1) := by decide +kernel
theorem d_Mo_clear_12 : decode b_Mo_clear 12 = .ok (.getfield 7, 3) := by decide +kernel
theorem d_Mo_clear_15 : decode b_Mo_clear 15 = .ok (.iload_n 1, 1) := by decide +kernel
theorem d_Mo_clear_16 : decode b_Mo_clear 16 = .ok (.iconst 0, 1) := by decide +kernel
theorem d_Mo_clear_17 : decode b_Mo_clear 17 = .ok (.iastore, 1) := by decide +kernel
theorem d_Mo_clear_18 : decode b_Mo_clear 18 = .ok (.iconst 1, 1) := by decide +kernel
theorem d_Mo_clear_19 : decode b_Mo_clear 19 = .ok (.ireturn, 1) := by decide +kernel
theorem d_Mo_query_0 : decode b_Mo_query 0 = .ok (.aload_n 0, 1) := by decide +kernel
theorem d_Mo_query_1 : decode b_Mo_query 1 = .ok (.iconst 0, 1) := by decide +kernel
theorem d_Mo_query_2 : decode b_Mo_query 2 = .ok (.putfield 85, 3) := by decide +kernel
theorem d_Mo_query_5 : decode b_Mo_query 5 = .ok (.aload_n 0, 1) := by decide +kernel
theorem d_Mo_query_6 : decode b_Mo_query 6 = .ok (.iconst 0, 1) := by decide +kernel
theorem d_Mo_query_7 : decode b_Mo_query 7 = .ok (.putfield 89, 3) := by decide +kernel
theorem d_Mo_query_10 : decode b_Mo_query 10 = .ok (.aload_n 0, 1) := by decide +kernel
theorem d_Mo_query_11 : decode b_Mo_query 11 = .ok (.iconst 0, 1) := by decide +kernel
theorem d_Mo_query_12 : decode b_Mo_query 12 = .ok (.putfield 92, 3) := by decide +kernel
theorem d_Mo_query_15 : decode b_Mo_query 15 = .ok (.aload_n 0, 1) := by decide +kernel
theorem d_Mo_query_16 : decode b_Mo_query 16 = .ok (.iconst 0, 1) := by decide +kernel
theorem d_Mo_query_17 : decode b_Mo_query 17 = .ok (.putfield 95, 3) := by decide +kernel
theorem d_Mo_query_20 : decode b_Mo_query 20 = .ok (.return_, 1) := by decide +kernel
set_option maxHeartbeats 4000000 in
set_option maxRecDepth 100000 in
theorem c_Mo_outside (l : Launch) (D : va_G) (cI cL cZ cW cR : ClassId) (x y z : Int32) : Met l y_Mo_outside ws_Mo_outside rm0_0 (zPr D vwCl (zT cI cL cZ cW cR) [] [.int x, .int y, .int z]) (zSi (zb (decide (x < y ∨ z < x)))) 0 0 (fun _ => False) := by
  refine zk_enterR (cc := b_Mo_outside) (maxL := 3) (ret := some .boolean) (by decide) rfl (Nat.le_of_ble_eq_true rfl) ?_
  intro p e s m args below meth c ls Q hx hb hml hr hlk hown hts hP hK hN hl hQ
  have hl : lv_has ls 3 [(0, .int x), (1, .int y), (2, .int z)] := hl
  refine lv_iload_n hx hb d_Mo_outside_0 rfl (lv_at hl 0 rfl) ?_
  refine lv_iload_n hx hb d_Mo_outside_1 rfl (lv_at hl 1 rfl) ?_
  refine lv_icmp_lt (tgt := 10) hx hb d_Mo_outside_2 rfl (fun h2 => ?_) (fun h2 => ?_)
  · skip
    refine lv_iconst (v := nI 1) hx hb d_Mo_outside_10 (by decide) ?_
    refine lv_goto (tgt := 15) hx hb d_Mo_outside_11 rfl ?_
    exact zk_zretR hx hb hr hlk hQ (by first | exact zk_t (Or.inl h2) | exact zk_f (fun q => q.elim h2 (Int32.not_lt.mpr h7)) | exact zk_t (Or.inr (Int32.not_le.mp h7))) d_Mo_outside_15
  · skip
    refine lv_iload_n hx hb d_Mo_outside_5 rfl (lv_at hl 0 rfl) ?_
    refine lv_iload_n hx hb d_Mo_outside_6 rfl (lv_at hl 2 rfl) ?_
    refine lv_icmp_le (tgt := 14) hx hb d_Mo_outside_7 rfl (fun h7 => ?_) (fun h7 => ?_)
    · skip
      refine lv_iconst (v := nI 0) hx hb d_Mo_outside_14 (by decide) ?_
      exact zk_zretR hx hb hr hlk hQ (by first | exact zk_t (Or.inl h2) | exact zk_f (fun q => q.elim h2 (Int32.not_lt.mpr h7)) | exact zk_t (Or.inr (Int32.not_le.mp h7))) d_Mo_outside_15
    · skip
      refine lv_iconst (v := nI 1) hx hb d_Mo_outside_10 (by decide) ?_
      refine lv_goto (tgt := 15) hx hb d_Mo_outside_11 rfl ?_
      exact zk_zretR hx hb hr hlk hQ (by first | exact zk_t (Or.inl h2) | exact zk_f (fun q => q.elim h2 (Int32.not_lt.mpr h7)) | exact zk_t (Or.inr (Int32.not_le.mp h7))) d_Mo_outside_15
set_option maxHeartbeats 4000000 in
set_option maxRecDepth 100000 in
theorem c_Mo_blocks (l : Launch) (D : va_G) (cI cL cZ cW cR : ClassId) (x : Nat) (hx0 : x < 2147483000) : Met l y_Mo_blocks ws_Mo_blocks rm0_0 (zPr D vwCl (zT cI cL cZ cW cR) [] [.int (nI x)]) (zSi (nI (bk x))) 0 0 (fun _ => False) := by
  refine zk_enterR (cc := b_Mo_blocks) (maxL := 1) (ret := some .int) (by decide) rfl (Nat.le_of_ble_eq_true rfl) ?_
  intro p e s m args below meth c ls Q hx hb hml hr hlk hown hts hP hK hN hl hQ
  have hl : lv_has ls 1 [(0, .int (nI x))] := hl
  refine lv_iload_n hx hb d_Mo_blocks_0 rfl (lv_at hl 0 rfl) ?_
  refine lv_iconst (v := nI 3) hx hb d_Mo_blocks_1 (by decide) ?_
  refine lv_iadd hx hb d_Mo_blocks_2 ?_
  refine zk_topi (show ((nI x) + (nI 3)) = nI (x + 3) from nI_add x 3) ?_
  refine lv_iconst (v := nI 4) hx hb d_Mo_blocks_3 (by decide) ?_
  refine lv_idiv hx hb d_Mo_blocks_4 (nI_ne0 (by omega) (by omega)) ?_
  refine zk_topi (show ((nI (x + 3)) / (nI 4)) = nI ((x + 3) / 4) from pk_div (by omega) (by omega) (by omega)) ?_
  exact zk_iretR hx hb hr hlk hQ (rfl) d_Mo_blocks_5
set_option maxHeartbeats 4000000 in
set_option maxRecDepth 100000 in
theorem c_Mo_hold (l : Launch) (D : va_G) (cI cL cZ cW cR : ClassId) (sz : Nat) (o : Nat) (ϕ : Nat → Value) (ms : Nat) (h0 : Nat) (hh0 : h0 < 1000) (hms : ms < 1000) : Met l y_Mo_hold ws_Mo_hold rm0_0 (zPw D vwCl (zT cI cL cZ cW cR) [(o, .inr (9, [(ϕ 0), (ϕ 1), (ϕ 2), (ϕ 3), (ϕ 4), (ϕ 5), (ϕ 6), (ϕ 7), (ϕ 8), (ϕ 9), (ϕ 10), (ϕ 11), (ϕ 12), (ϕ 13), (ϕ 14), (ϕ 15), (ϕ 16), (ϕ 17), (ϕ 18), (ϕ 19), (ϕ 20), (ϕ 21), (ϕ 22), (ϕ 23), (ϕ 24), (ϕ 25), (ϕ 26), (ϕ 27), (ϕ 28), (ϕ 29), (ϕ 30), (ϕ 31), (ϕ 32), (ϕ 33), .int (nI ms), (ϕ 35), (ϕ 36), (ϕ 37), (ϕ 38), (ϕ 39), (ϕ 40), (ϕ 41), (ϕ 42), (ϕ 43)]))] sz [.ref o, .int (nI h0)]) (zQv D vwCl (zT cI cL cZ cW cR) [(o, .inr (9, [(ϕ 0), (ϕ 1), (ϕ 2), (ϕ 3), (ϕ 4), (ϕ 5), (ϕ 6), (ϕ 7), (ϕ 8), (ϕ 9), (ϕ 10), (ϕ 11), (ϕ 12), (ϕ 13), (ϕ 14), (ϕ 15), (ϕ 16), (ϕ 17), (ϕ 18), (ϕ 19), (ϕ 20), (ϕ 21), (ϕ 22), (ϕ 23), (ϕ 24), (ϕ 25), (ϕ 26), (ϕ 27), (ϕ 28), (ϕ 29), (ϕ 30), (ϕ 31), (ϕ 32), (ϕ 33), .int (nI ms), (ϕ 35), (ϕ 36), (ϕ 37), (ϕ 38), (ϕ 39), (ϕ 40), (ϕ 41), (ϕ 42), (ϕ 43)]))] sz (fun _ : Unit => True) (fun _ => [(o, .inr (9, [(ϕ 0), (ϕ 1), (ϕ 2), (ϕ 3), (ϕ 4), (ϕ 5), (ϕ 6), (ϕ 7), (ϕ 8), (ϕ 9), (ϕ 10), (ϕ 11), (ϕ 12), (ϕ 13), (ϕ 14), (ϕ 15), (ϕ 16), (ϕ 17), (ϕ 18), (ϕ 19), (ϕ 20), (ϕ 21), (ϕ 22), (ϕ 23), (ϕ 24), (ϕ 25), (ϕ 26), (ϕ 27), (ϕ 28), (ϕ 29), (ϕ 30), (ϕ 31), (ϕ 32), (ϕ 33), .int (nI (max ms h0)), (ϕ 35), (ϕ 36), (ϕ 37), (ϕ 38), (ϕ 39), (ϕ 40), (ϕ 41), (ϕ 42), (ϕ 43)]))])) 0 0 (va_A [(o, .inr (9, [(ϕ 0), (ϕ 1), (ϕ 2), (ϕ 3), (ϕ 4), (ϕ 5), (ϕ 6), (ϕ 7), (ϕ 8), (ϕ 9), (ϕ 10), (ϕ 11), (ϕ 12), (ϕ 13), (ϕ 14), (ϕ 15), (ϕ 16), (ϕ 17), (ϕ 18), (ϕ 19), (ϕ 20), (ϕ 21), (ϕ 22), (ϕ 23), (ϕ 24), (ϕ 25), (ϕ 26), (ϕ 27), (ϕ 28), (ϕ 29), (ϕ 30), (ϕ 31), (ϕ 32), (ϕ 33), .int (nI ms), (ϕ 35), (ϕ 36), (ϕ 37), (ϕ 38), (ϕ 39), (ϕ 40), (ϕ 41), (ϕ 42), (ϕ 43)]))] sz) := by
  refine zk_enterW (cc := b_Mo_hold) (maxL := 2) (ret := none) (by decide) rfl (Nat.le_of_ble_eq_true rfl) ?_
  intro p e s m args below meth c ls Q hx hb hml hr hlk hown hts hP hK hN hl hin hsz A hAe hA hD hS hQ
  subst hsz
  have hl : lv_has ls 2 [(0, .ref o), (1, .int (nI h0))] := hl
  refine lv_aload_n hx hb d_Mo_hold_0 rfl (lv_at hl 0 rfl) ?_
  refine lv_iload_n hx hb d_Mo_hold_1 rfl (lv_at hl 1 rfl) ?_
  refine lv_aload_n hx hb d_Mo_hold_2 rfl (lv_at hl 0 rfl) ?_
  refine va_get (C := R_Mo) (T := F_Mo) (N := 44) hx hb hts (fun w h => List.mem_cons_of_mem _ (hin_Mo w h)) hown hK hP 0 rfl rfl 34 (by decide) (hts _ (List.mem_cons_of_mem _ fl_Mo_110)) (fun _ h => h) rfl d_Mo_hold_3 ?_
  refine zk_icmp_le (tgt := 13) hx hb d_Mo_hold_6 rfl (by omega) (by omega) (fun h6 => ?_) (fun h6 => ?_)
  · skip
    refine lv_aload_n hx hb d_Mo_hold_13 rfl (lv_at hl 0 rfl) ?_
    refine va_get (C := R_Mo) (T := F_Mo) (N := 44) hx hb hts (fun w h => List.mem_cons_of_mem _ (hin_Mo w h)) hown hK hP 0 rfl rfl 34 (by decide) (hts _ (List.mem_cons_of_mem _ fl_Mo_110)) (fun _ h => h) rfl d_Mo_hold_14 ?_
    refine zk_topi (show (nI ms) = nI (max ms h0) from by rw [Nat.max_eq_left (by omega)]) ?_
    refine va_put (D := D) (v := .int (nI (max ms h0))) (ty := .int) (C := R_Mo) (T := F_Mo) (N := 44) hx hb hts (fun w h => List.mem_cons_of_mem _ (hin_Mo w h)) t_Mo t_Mo_ok n_Mo hown hK hP hD hS 0 rfl rfl 34 (by decide) (hts _ (List.mem_cons_of_mem _ fl_Mo_110)) (fun _ h => h) rfl (by decide +kernel) rfl rfl (Nat.le_of_ble_eq_true rfl) d_Mo_hold_17 (fun H locs hP hD hS => ?_)
    have hP : va_P D vwCl [(o, .inr (9, [(ϕ 0), (ϕ 1), (ϕ 2), (ϕ 3), (ϕ 4), (ϕ 5), (ϕ 6), (ϕ 7), (ϕ 8), (ϕ 9), (ϕ 10), (ϕ 11), (ϕ 12), (ϕ 13), (ϕ 14), (ϕ 15), (ϕ 16), (ϕ 17), (ϕ 18), (ϕ 19), (ϕ 20), (ϕ 21), (ϕ 22), (ϕ 23), (ϕ 24), (ϕ 25), (ϕ 26), (ϕ 27), (ϕ 28), (ϕ 29), (ϕ 30), (ϕ 31), (ϕ 32), (ϕ 33), .int (nI (max ms h0)), (ϕ 35), (ϕ 36), (ϕ 37), (ϕ 38), (ϕ 39), (ϕ 40), (ϕ 41), (ϕ 42), (ϕ 43)]))] H := hP
    have hD : va_D A [(o, .inr (9, [(ϕ 0), (ϕ 1), (ϕ 2), (ϕ 3), (ϕ 4), (ϕ 5), (ϕ 6), (ϕ 7), (ϕ 8), (ϕ 9), (ϕ 10), (ϕ 11), (ϕ 12), (ϕ 13), (ϕ 14), (ϕ 15), (ϕ 16), (ϕ 17), (ϕ 18), (ϕ 19), (ϕ 20), (ϕ 21), (ϕ 22), (ϕ 23), (ϕ 24), (ϕ 25), (ϕ 26), (ϕ 27), (ϕ 28), (ϕ 29), (ϕ 30), (ϕ 31), (ϕ 32), (ϕ 33), .int (nI (max ms h0)), (ϕ 35), (ϕ 36), (ϕ 37), (ϕ 38), (ϕ 39), (ϕ 40), (ϕ 41), (ϕ 42), (ϕ 43)]))] := hD
    exact zk_vretW hx hb hr hlk hAe hQ hK (()) (trivial) hP hD hS d_Mo_hold_20
  · skip
    refine lv_iload_n hx hb d_Mo_hold_9 rfl (lv_at hl 1 rfl) ?_
    refine zk_topi (show (nI h0) = nI (max ms h0) from by rw [Nat.max_eq_right (by omega)]) ?_
    refine lv_goto (tgt := 17) hx hb d_Mo_hold_10 rfl ?_
    refine va_put (D := D) (v := .int (nI (max ms h0))) (ty := .int) (C := R_Mo) (T := F_Mo) (N := 44) hx hb hts (fun w h => List.mem_cons_of_mem _ (hin_Mo w h)) t_Mo t_Mo_ok n_Mo hown hK hP hD hS 0 rfl rfl 34 (by decide) (hts _ (List.mem_cons_of_mem _ fl_Mo_110)) (fun _ h => h) rfl (by decide +kernel) rfl rfl (Nat.le_of_ble_eq_true rfl) d_Mo_hold_17 (fun H locs hP hD hS => ?_)
    have hP : va_P D vwCl [(o, .inr (9, [(ϕ 0), (ϕ 1), (ϕ 2), (ϕ 3), (ϕ 4), (ϕ 5), (ϕ 6), (ϕ 7), (ϕ 8), (ϕ 9), (ϕ 10), (ϕ 11), (ϕ 12), (ϕ 13), (ϕ 14), (ϕ 15), (ϕ 16), (ϕ 17), (ϕ 18), (ϕ 19), (ϕ 20), (ϕ 21), (ϕ 22), (ϕ 23), (ϕ 24), (ϕ 25), (ϕ 26), (ϕ 27), (ϕ 28), (ϕ 29), (ϕ 30), (ϕ 31), (ϕ 32), (ϕ 33), .int (nI (max ms h0)), (ϕ 35), (ϕ 36), (ϕ 37), (ϕ 38), (ϕ 39), (ϕ 40), (ϕ 41), (ϕ 42), (ϕ 43)]))] H := hP
    have hD : va_D A [(o, .inr (9, [(ϕ 0), (ϕ 1), (ϕ 2), (ϕ 3), (ϕ 4), (ϕ 5), (ϕ 6), (ϕ 7), (ϕ 8), (ϕ 9), (ϕ 10), (ϕ 11), (ϕ 12), (ϕ 13), (ϕ 14), (ϕ 15), (ϕ 16), (ϕ 17), (ϕ 18), (ϕ 19), (ϕ 20), (ϕ 21), (ϕ 22), (ϕ 23), (ϕ 24), (ϕ 25), (ϕ 26), (ϕ 27), (ϕ 28), (ϕ 29), (ϕ 30), (ϕ 31), (ϕ 32), (ϕ 33), .int (nI (max ms h0)), (ϕ 35), (ϕ 36), (ϕ 37), (ϕ 38), (ϕ 39), (ϕ 40), (ϕ 41), (ϕ 42), (ϕ 43)]))] := hD
    exact zk_vretW hx hb hr hlk hAe hQ hK (()) (trivial) hP hD hS d_Mo_hold_20
set_option maxHeartbeats 4000000 in
set_option maxRecDepth 100000 in
theorem c_Mo_given (l : Launch) (D : va_G) (cI cL cZ cW cR : ClassId) (o : Nat) (ϕ : Nat → Value) (a_holes : Nat) (ho : Nat → Int32) (t r c0 : Nat) (ht : t < 2) (hr0 : r < 24) (hc0 : c0 < 3) : Met l y_Mo_given ws_Mo_given rm0_0 (zPr D vwCl (zT cI cL cZ cW cR) [(o, .inr (9, [(ϕ 0), (ϕ 1), (ϕ 2), .ref a_holes, (ϕ 4), (ϕ 5), (ϕ 6), (ϕ 7), (ϕ 8), (ϕ 9), (ϕ 10), (ϕ 11), (ϕ 12), (ϕ 13), (ϕ 14), (ϕ 15), (ϕ 16), (ϕ 17), (ϕ 18), (ϕ 19), (ϕ 20), (ϕ 21), (ϕ 22), (ϕ 23), (ϕ 24), (ϕ 25), (ϕ 26), (ϕ 27), (ϕ 28), (ϕ 29), (ϕ 30), (ϕ 31), (ϕ 32), (ϕ 33), (ϕ 34), (ϕ 35), (ϕ 36), (ϕ 37), (ϕ 38), (ϕ 39), (ϕ 40), (ϕ 41), (ϕ 42), (ϕ 43)])), (a_holes, .inl (cI, 48, .inl ho))] [.ref o, .int (nI t), .int (nI r), .int (nI c0)]) (zSi (zb (hBit (ho (24 * t + r)) c0))) 0 0 (fun _ => False) := by
  refine zk_enterR (cc := b_Mo_given) (maxL := 4) (ret := some .boolean) (by decide) rfl (Nat.le_of_ble_eq_true rfl) ?_
  intro p e s m args below meth c ls Q hx hb hml hr hlk hown hts hP hK hN hl hQ
  have hl : lv_has ls 4 [(0, .ref o), (1, .int (nI t)), (2, .int (nI r)), (3, .int (nI c0))] := hl
  refine lv_aload_n hx hb d_Mo_given_0 rfl (lv_at hl 0 rfl) ?_
  refine va_get (C := R_Mo) (T := F_Mo) (N := 44) hx hb hts (fun w h => List.mem_cons_of_mem _ (hin_Mo w h)) hown hK hP 0 rfl rfl 3 (by decide) (hts _ (List.mem_cons_of_mem _ fl_Mo_16)) (fun _ h => h) rfl d_Mo_given_1 ?_
  refine lv_bipush (v := nI 24) hx hb d_Mo_given_4 (by decide) ?_
  refine lv_iload_n hx hb d_Mo_given_6 rfl (lv_at hl 1 rfl) ?_
  refine lv_imul hx hb d_Mo_given_7 ?_
  refine zk_topi (show ((nI 24) * (nI t)) = nI (24 * t) from pk_mul 24 t) ?_
  refine lv_iload_n hx hb d_Mo_given_8 rfl (lv_at hl 2 rfl) ?_
  refine lv_iadd hx hb d_Mo_given_9 ?_
  refine zk_topi (show ((nI (24 * t)) + (nI r)) = nI (24 * t + r) from nI_add (24 * t) r) ?_
  refine zk_iald hx hb hK hP 1 0 rfl rfl (by omega) (by omega) d_Mo_given_10 ?_
  refine lv_iload_n hx hb d_Mo_given_11 rfl (lv_at hl 3 rfl) ?_
  refine lv_ishr hx hb d_Mo_given_12 ?_
  refine lv_iconst (v := nI 1) hx hb d_Mo_given_13 (by decide) ?_
  refine lv_iand hx hb d_Mo_given_14 ?_
  refine lv_if_ne (tgt := 22) hx hb d_Mo_given_15 rfl (fun h15 => ?_) (fun h15 => ?_)
  · skip
    refine lv_iconst (v := nI 0) hx hb d_Mo_given_22 (by decide) ?_
    exact zk_zretR hx hb hr hlk hQ (by first | exact zk_t h15 | exact zk_f h15) d_Mo_given_23
  · skip
    refine lv_iconst (v := nI 1) hx hb d_Mo_given_18 (by decide) ?_
    refine lv_goto (tgt := 23) hx hb d_Mo_given_19 rfl ?_
    exact zk_zretR hx hb hr hlk hQ (by first | exact zk_t h15 | exact zk_f h15) d_Mo_given_23
set_option maxHeartbeats 4000000 in
set_option maxRecDepth 100000 in
theorem c_Mo_givenValue (l : Launch) (D : va_G) (cI cL cZ cW cR : ClassId) (o : Nat) (ϕ : Nat → Value) (a_given : Nat) (gv : Nat → Int32) (t r c0 : Nat) (ht : t < 2) (hr0 : r < 24) (hc0 : c0 < 3) : Met l y_Mo_givenValue ws_Mo_givenValue rm0_0 (zPr D vwCl (zT cI cL cZ cW cR) [(o, .inr (9, [(ϕ 0), (ϕ 1), .ref a_given, (ϕ 3), (ϕ 4), (ϕ 5), (ϕ 6), (ϕ 7), (ϕ 8), (ϕ 9), (ϕ 10), (ϕ 11), (ϕ 12), (ϕ 13), (ϕ 14), (ϕ 15), (ϕ 16), (ϕ 17), (ϕ 18), (ϕ 19), (ϕ 20), (ϕ 21), (ϕ 22), (ϕ 23), (ϕ 24), (ϕ 25), (ϕ 26), (ϕ 27), (ϕ 28), (ϕ 29), (ϕ 30), (ϕ 31), (ϕ 32), (ϕ 33), (ϕ 34), (ϕ 35), (ϕ 36), (ϕ 37), (ϕ 38), (ϕ 39), (ϕ 40), (ϕ 41), (ϕ 42), (ϕ 43)])), (a_given, .inl (cI, 144, .inl gv))] [.ref o, .int (nI t), .int (nI r), .int (nI c0)]) (zSi (gv (72 * t + 3 * r + c0))) 0 0 (fun _ => False) := by
  refine zk_enterR (cc := b_Mo_givenValue) (maxL := 4) (ret := some .int) (by decide) rfl (Nat.le_of_ble_eq_true rfl) ?_
  intro p e s m args below meth c ls Q hx hb hml hr hlk hown hts hP hK hN hl hQ
  have hl : lv_has ls 4 [(0, .ref o), (1, .int (nI t)), (2, .int (nI r)), (3, .int (nI c0))] := hl
  refine lv_aload_n hx hb d_Mo_givenValue_0 rfl (lv_at hl 0 rfl) ?_
  refine va_get (C := R_Mo) (T := F_Mo) (N := 44) hx hb hts (fun w h => List.mem_cons_of_mem _ (hin_Mo w h)) hown hK hP 0 rfl rfl 2 (by decide) (hts _ (List.mem_cons_of_mem _ fl_Mo_13)) (fun _ h => h) rfl d_Mo_givenValue_1 ?_
  refine lv_bipush (v := nI 72) hx hb d_Mo_givenValue_4 (by decide) ?_
  refine lv_iload_n hx hb d_Mo_givenValue_6 rfl (lv_at hl 1 rfl) ?_
  refine lv_imul hx hb d_Mo_givenValue_7 ?_
  refine zk_topi (show ((nI 72) * (nI t)) = nI (72 * t) from pk_mul 72 t) ?_
  refine lv_iconst (v := nI 3) hx hb d_Mo_givenValue_8 (by decide) ?_
  refine lv_iload_n hx hb d_Mo_givenValue_9 rfl (lv_at hl 2 rfl) ?_
  refine lv_imul hx hb d_Mo_givenValue_10 ?_
  refine zk_topi (show ((nI 3) * (nI r)) = nI (3 * r) from pk_mul 3 r) ?_
  refine lv_iadd hx hb d_Mo_givenValue_11 ?_
  refine zk_topi (show ((nI (72 * t)) + (nI (3 * r))) = nI (72 * t + (3 * r)) from nI_add (72 * t) (3 * r)) ?_
  refine lv_iload_n hx hb d_Mo_givenValue_12 rfl (lv_at hl 3 rfl) ?_
  refine lv_iadd hx hb d_Mo_givenValue_13 ?_
  refine zk_topi (show ((nI (72 * t + (3 * r))) + (nI c0)) = nI (72 * t + (3 * r) + c0) from nI_add (72 * t + (3 * r)) c0) ?_
  refine zk_iald hx hb hK hP 1 0 rfl rfl (by omega) (by omega) d_Mo_givenValue_14 ?_
  exact zk_iretR hx hb hr hlk hQ (rfl) d_Mo_givenValue_15
set_option maxHeartbeats 4000000 in
set_option maxRecDepth 100000 in
theorem c_Mo_part (l : Launch) (D : va_G) (cI cL cZ cW cR : ClassId) (o : Nat) (ϕ : Nat → Value) (fr : Nat) (x : Int32) (lv : Nat) (hlv : lv < 2) (hfr : 3 ≤ fr) (hfr2 : fr ≤ 8) : Met l y_Mo_part ws_Mo_part rm0_0 (zPr D vwCl (zT cI cL cZ cW cR) [(o, .inr (9, [.int (nI fr), (ϕ 1), (ϕ 2), (ϕ 3), (ϕ 4), (ϕ 5), (ϕ 6), (ϕ 7), (ϕ 8), (ϕ 9), (ϕ 10), (ϕ 11), (ϕ 12), (ϕ 13), (ϕ 14), (ϕ 15), (ϕ 16), (ϕ 17), (ϕ 18), (ϕ 19), (ϕ 20), (ϕ 21), (ϕ 22), (ϕ 23), (ϕ 24), (ϕ 25), (ϕ 26), (ϕ 27), (ϕ 28), (ϕ 29), (ϕ 30), (ϕ 31), (ϕ 32), (ϕ 33), (ϕ 34), (ϕ 35), (ϕ 36), (ϕ 37), (ϕ 38), (ϕ 39), (ϕ 40), (ϕ 41), (ϕ 42), (ϕ 43)]))] [.ref o, .int x, .int (nI lv)]) (zSi (nI (prt (fr - 1) x lv))) 0 0 (fun _ => False) := by
  refine zk_enterR (cc := b_Mo_part) (maxL := 4) (ret := some .int) (by decide) rfl (Nat.le_of_ble_eq_true rfl) ?_
  intro p e s m args below meth c ls Q hx hb hml hr hlk hown hts hP hK hN hl hQ
  have hl : lv_has ls 4 [(0, .ref o), (1, .int x), (2, .int (nI lv))] := hl
  refine lv_iload_n hx hb d_Mo_part_0 rfl (lv_at hl 1 rfl) ?_
  refine lv_iload_n hx hb d_Mo_part_1 rfl (lv_at hl 1 rfl) ?_
  refine lv_bipush (v := nI 16) hx hb d_Mo_part_2 (by decide) ?_
  refine lv_iushr (v := (x.toUInt32 >>> ((nI 16).toUInt32 &&& Int32.toUInt32 31)).toInt32) hx hb d_Mo_part_4 (rfl) ?_
  refine lv_ixor hx hb d_Mo_part_5 ?_
  refine lv_ldc (v := 73244475) hx hb hown (hts _ (List.mem_cons_of_mem _ cst_Mo_137)) d_Mo_part_6 ?_
  refine lv_imul hx hb d_Mo_part_8 ?_
  refine lv_istore_n (lv' := [(3, .int ((x ^^^ ((x.toUInt32 >>> ((nI 16).toUInt32 &&& Int32.toUInt32 31)).toInt32)) * 73244475)), (0, .ref o), (1, .int x), (2, .int (nI lv))]) hx hb d_Mo_part_9 rfl hl (by decide) rfl (fun ls hl => ?_)
  refine lv_iload_n hx hb d_Mo_part_10 rfl (lv_at hl 0 rfl) ?_
  refine lv_iconst (v := nI 3) hx hb d_Mo_part_11 (by decide) ?_
  refine lv_bipush (v := nI 7) hx hb d_Mo_part_12 (by decide) ?_
  refine lv_iload_n hx hb d_Mo_part_14 rfl (lv_at hl 3 rfl) ?_
  refine lv_imul hx hb d_Mo_part_15 ?_
  refine zk_topi (show ((nI 7) * (nI lv)) = nI (7 * lv) from pk_mul 7 lv) ?_
  refine lv_iadd hx hb d_Mo_part_16 ?_
  refine zk_topi (show ((nI 3) + (nI (7 * lv))) = nI (3 + (7 * lv)) from nI_add 3 (7 * lv)) ?_
  refine lv_iushr (v := nI ((hsh x).toBitVec.toNat / 2 ^ (3 + 7 * lv))) hx hb d_Mo_part_17 (zk_hs (by omega)) ?_
  refine lv_aload_n hx hb d_Mo_part_18 rfl (lv_at hl 1 rfl) ?_
  refine va_get (C := R_Mo) (T := F_Mo) (N := 44) hx hb hts (fun w h => List.mem_cons_of_mem _ (hin_Mo w h)) hown hK hP 0 rfl rfl 0 (by decide) (hts _ (List.mem_cons_of_mem _ fl_Mo_74)) (fun _ h => h) rfl d_Mo_part_19 ?_
  refine lv_iconst (v := nI 1) hx hb d_Mo_part_22 (by decide) ?_
  refine lv_isub hx hb d_Mo_part_23 ?_
  refine zk_topi (show ((nI fr) - (nI 1)) = nI (fr - 1) from pk_sub (by omega)) ?_
  refine lv_irem hx hb d_Mo_part_24 (nI_ne0 (by omega) (by omega)) ?_
  refine zk_topi (show ((nI ((hsh x).toBitVec.toNat / 2 ^ (3 + 7 * lv))) - (nI ((hsh x).toBitVec.toNat / 2 ^ (3 + 7 * lv))) / (nI (fr - 1)) * (nI (fr - 1))) = nI (prt (fr - 1) x lv) from pk_rem zk_hl (by omega) (by omega)) ?_
  exact zk_iretR hx hb hr hlk hQ (rfl) d_Mo_part_25
set_option maxHeartbeats 4000000 in
set_option maxRecDepth 100000 in
theorem c_Mo_keysOf (l : Launch) (D : va_G) (cI cL cZ cW cR : ClassId) (o : Nat) (ϕ : Nat → Value) (a_wPart a_wOrder : Nat) (po : Nat → Option Nat) (oo : Nat → Option Nat) (w : Nat) (hw : w < 3) (hpo : ∀ w q, po w = some q → q < 1000) (hoo : ∀ w q, oo w = some q → q < 1000) : Met l y_Mo_keysOf ws_Mo_keysOf rm0_0 (zPr D vwCl (zT cI cL cZ cW cR) [(o, .inr (9, [(ϕ 0), (ϕ 1), (ϕ 2), (ϕ 3), (ϕ 4), (ϕ 5), (ϕ 6), (ϕ 7), (ϕ 8), (ϕ 9), (ϕ 10), (ϕ 11), (ϕ 12), .ref a_wPart, .ref a_wOrder, (ϕ 15), (ϕ 16), (ϕ 17), (ϕ 18), (ϕ 19), (ϕ 20), (ϕ 21), (ϕ 22), (ϕ 23), (ϕ 24), (ϕ 25), (ϕ 26), (ϕ 27), (ϕ 28), (ϕ 29), (ϕ 30), (ϕ 31), (ϕ 32), (ϕ 33), (ϕ 34), (ϕ 35), (ϕ 36), (ϕ 37), (ϕ 38), (ϕ 39), (ϕ 40), (ϕ 41), (ϕ 42), (ϕ 43)])), (a_wPart, .inl (cI, 3, .inl (zO po))), (a_wOrder, .inl (cI, 3, .inl (zO oo)))] [.ref o, .int (nI w)]) (zSi (nI (kN (po w) (oo w)))) 0 0 (fun _ => False) := by
  refine zk_enterR (cc := b_Mo_keysOf) (maxL := 2) (ret := some .int) (by decide) rfl (Nat.le_of_ble_eq_true rfl) ?_
  intro p e s m args below meth c ls Q hx hb hml hr hlk hown hts hP hK hN hl hQ
  have hl : lv_has ls 2 [(0, .ref o), (1, .int (nI w))] := hl
  refine lv_aload_n hx hb d_Mo_keysOf_0 rfl (lv_at hl 0 rfl) ?_
  refine va_get (C := R_Mo) (T := F_Mo) (N := 44) hx hb hts (fun w h => List.mem_cons_of_mem _ (hin_Mo w h)) hown hK hP 0 rfl rfl 13 (by decide) (hts _ (List.mem_cons_of_mem _ fl_Mo_31)) (fun _ h => h) rfl d_Mo_keysOf_1 ?_
  refine lv_iload_n hx hb d_Mo_keysOf_4 rfl (lv_at hl 1 rfl) ?_
  refine zk_oald hx hb hK hP 1 0 rfl rfl (by omega) (by omega) d_Mo_keysOf_5 ?_
  refine lv_if_lt (tgt := 13) hx hb d_Mo_keysOf_6 rfl (fun h6 => ?_) (fun h6 => ?_)
  · skip
    have e6 := oI_lt0 (hpo w) h6
    refine lv_iconst (v := nI 0) hx hb d_Mo_keysOf_13 (by decide) ?_
    refine lv_aload_n hx hb d_Mo_keysOf_14 rfl (lv_at hl 0 rfl) ?_
    refine va_get (C := R_Mo) (T := F_Mo) (N := 44) hx hb hts (fun w h => List.mem_cons_of_mem _ (hin_Mo w h)) hown hK hP 0 rfl rfl 14 (by decide) (hts _ (List.mem_cons_of_mem _ fl_Mo_34)) (fun _ h => h) rfl d_Mo_keysOf_15 ?_
    refine lv_iload_n hx hb d_Mo_keysOf_18 rfl (lv_at hl 1 rfl) ?_
    refine zk_oald hx hb hK hP 2 0 rfl rfl (by omega) (by omega) d_Mo_keysOf_19 ?_
    refine lv_if_lt (tgt := 27) hx hb d_Mo_keysOf_20 rfl (fun h20 => ?_) (fun h20 => ?_)
    · skip
      have e20 := oI_lt0 (hoo w) h20
      refine lv_iconst (v := nI 0) hx hb d_Mo_keysOf_27 (by decide) ?_
      refine lv_iadd hx hb d_Mo_keysOf_28 ?_
      refine zk_topi (show ((nI 0) + (nI 0)) = nI (0 + 0) from nI_add 0 0) ?_
      exact zk_iretR hx hb hr hlk hQ (by rw [e6, e20]; rfl) d_Mo_keysOf_29
    · skip
      obtain ⟨oj, e20⟩ := oI_ge0 h20
      refine lv_iconst (v := nI 1) hx hb d_Mo_keysOf_23 (by decide) ?_
      refine lv_goto (tgt := 28) hx hb d_Mo_keysOf_24 rfl ?_
      refine lv_iadd hx hb d_Mo_keysOf_28 ?_
      refine zk_topi (show ((nI 0) + (nI 1)) = nI (0 + 1) from nI_add 0 1) ?_
      exact zk_iretR hx hb hr hlk hQ (by rw [e6, e20]; rfl) d_Mo_keysOf_29
  · skip
    obtain ⟨pj, e6⟩ := oI_ge0 h6
    refine lv_iconst (v := nI 1) hx hb d_Mo_keysOf_9 (by decide) ?_
    refine lv_goto (tgt := 14) hx hb d_Mo_keysOf_10 rfl ?_
    refine lv_aload_n hx hb d_Mo_keysOf_14 rfl (lv_at hl 0 rfl) ?_
    refine va_get (C := R_Mo) (T := F_Mo) (N := 44) hx hb hts (fun w h => List.mem_cons_of_mem _ (hin_Mo w h)) hown hK hP 0 rfl rfl 14 (by decide) (hts _ (List.mem_cons_of_mem _ fl_Mo_34)) (fun _ h => h) rfl d_Mo_keysOf_15 ?_
    refine lv_iload_n hx hb d_Mo_keysOf_18 rfl (lv_at hl 1 rfl) ?_
    refine zk_oald hx hb hK hP 2 0 rfl rfl (by omega) (by omega) d_Mo_keysOf_19 ?_
    refine lv_if_lt (tgt := 27) hx hb d_Mo_keysOf_20 rfl (fun h20 => ?_) (fun h20 => ?_)
    · skip
      have e20 := oI_lt0 (hoo w) h20
      refine lv_iconst (v := nI 0) hx hb d_Mo_keysOf_27 (by decide) ?_
      refine lv_iadd hx hb d_Mo_keysOf_28 ?_
      refine zk_topi (show ((nI 1) + (nI 0)) = nI (1 + 0) from nI_add 1 0) ?_
      exact zk_iretR hx hb hr hlk hQ (by rw [e6, e20]; rfl) d_Mo_keysOf_29
    · skip
      obtain ⟨oj, e20⟩ := oI_ge0 h20
      refine lv_iconst (v := nI 1) hx hb d_Mo_keysOf_23 (by decide) ?_
      refine lv_goto (tgt := 28) hx hb d_Mo_keysOf_24 rfl ?_
      refine lv_iadd hx hb d_Mo_keysOf_28 ?_
      refine zk_topi (show ((nI 1) + (nI 1)) = nI (1 + 1) from nI_add 1 1) ?_
      exact zk_iretR hx hb hr hlk hQ (by rw [e6, e20]; rfl) d_Mo_keysOf_29
set_option maxHeartbeats 4000000 in
set_option maxRecDepth 100000 in
theorem c_Mo_keyIs (l : Launch) (D : va_G) (cI cL cZ cW cR : ClassId) (o : Nat) (ϕ : Nat → Value) (a_keyColumn a_keyDown : Nat) (kn : Nat) (kf : Nat → Nat) (kg : Nat → Bool) (t : Nat) (x : Int32) (d0 : Bool) (ht : t < 2) (hkn : kn ≤ 2) : Met l y_Mo_keyIs ws_Mo_keyIs rm0_0 (zPr D vwCl (zT cI cL cZ cW cR) [(o, .inr (9, [(ϕ 0), (ϕ 1), (ϕ 2), (ϕ 3), (ϕ 4), (ϕ 5), (ϕ 6), (ϕ 7), (ϕ 8), (ϕ 9), (ϕ 10), (ϕ 11), (ϕ 12), (ϕ 13), (ϕ 14), (ϕ 15), (ϕ 16), (ϕ 17), (ϕ 18), (ϕ 19), (ϕ 20), (ϕ 21), (ϕ 22), (ϕ 23), (ϕ 24), (ϕ 25), (ϕ 26), (ϕ 27), (ϕ 28), (ϕ 29), .int (nI kn), .ref a_keyColumn, .ref a_keyDown, (ϕ 33), (ϕ 34), (ϕ 35), (ϕ 36), (ϕ 37), (ϕ 38), (ϕ 39), (ϕ 40), (ϕ 41), (ϕ 42), (ϕ 43)])), (a_keyColumn, .inl (cI, 2, .inl (zN kf))), (a_keyDown, .inl (cZ, 2, .inl (zZ kg)))] [.ref o, .int (nI t), .int x, .int (zb d0)]) (zSi (zb (decide (t < kn ∧ nI (kf t) = x ∧ kg t = d0)))) 0 0 (fun _ => False) := by
  refine zk_enterR (cc := b_Mo_keyIs) (maxL := 4) (ret := some .boolean) (by decide) rfl (Nat.le_of_ble_eq_true rfl) ?_
  intro p e s m args below meth c ls Q hx hb hml hr hlk hown hts hP hK hN hl hQ
  have hl : lv_has ls 4 [(0, .ref o), (1, .int (nI t)), (2, .int x), (3, .int (zb d0))] := hl
  refine lv_iload_n hx hb d_Mo_keyIs_0 rfl (lv_at hl 1 rfl) ?_
  refine lv_aload_n hx hb d_Mo_keyIs_1 rfl (lv_at hl 0 rfl) ?_
  refine va_get (C := R_Mo) (T := F_Mo) (N := 44) hx hb hts (fun w h => List.mem_cons_of_mem _ (hin_Mo w h)) hown hK hP 0 rfl rfl 30 (by decide) (hts _ (List.mem_cons_of_mem _ fl_Mo_165)) (fun _ h => h) rfl d_Mo_keyIs_2 ?_
  refine zk_icmp_ge (tgt := 32) hx hb d_Mo_keyIs_5 rfl (by omega) (by omega) (fun h5 => ?_) (fun h5 => ?_)
  · skip
    refine lv_iconst (v := nI 0) hx hb d_Mo_keyIs_32 (by decide) ?_
    exact zk_zretR hx hb hr hlk hQ (by first | exact zk_t ⟨h5, h15, zk_bi h25⟩ | exact zk_f (fun q => h25 (congrArg zb q.2.2)) | exact zk_f (fun q => h15 q.2.1) | exact zk_f (fun q => absurd q.1 (by omega))) d_Mo_keyIs_33
  · skip
    refine lv_aload_n hx hb d_Mo_keyIs_8 rfl (lv_at hl 0 rfl) ?_
    refine va_get (C := R_Mo) (T := F_Mo) (N := 44) hx hb hts (fun w h => List.mem_cons_of_mem _ (hin_Mo w h)) hown hK hP 0 rfl rfl 31 (by decide) (hts _ (List.mem_cons_of_mem _ fl_Mo_68)) (fun _ h => h) rfl d_Mo_keyIs_9 ?_
    refine lv_iload_n hx hb d_Mo_keyIs_12 rfl (lv_at hl 1 rfl) ?_
    refine zk_nald hx hb hK hP 1 0 rfl rfl (by omega) (by omega) d_Mo_keyIs_13 ?_
    refine lv_iload_n hx hb d_Mo_keyIs_14 rfl (lv_at hl 2 rfl) ?_
    refine lv_icmp_ne (tgt := 32) hx hb d_Mo_keyIs_15 rfl (fun h15 => ?_) (fun h15 => ?_)
    · skip
      refine lv_iconst (v := nI 0) hx hb d_Mo_keyIs_32 (by decide) ?_
      exact zk_zretR hx hb hr hlk hQ (by first | exact zk_t ⟨h5, h15, zk_bi h25⟩ | exact zk_f (fun q => h25 (congrArg zb q.2.2)) | exact zk_f (fun q => h15 q.2.1) | exact zk_f (fun q => absurd q.1 (by omega))) d_Mo_keyIs_33
    · skip
      refine lv_aload_n hx hb d_Mo_keyIs_18 rfl (lv_at hl 0 rfl) ?_
      refine va_get (C := R_Mo) (T := F_Mo) (N := 44) hx hb hts (fun w h => List.mem_cons_of_mem _ (hin_Mo w h)) hown hK hP 0 rfl rfl 32 (by decide) (hts _ (List.mem_cons_of_mem _ fl_Mo_71)) (fun _ h => h) rfl d_Mo_keyIs_19 ?_
      refine lv_iload_n hx hb d_Mo_keyIs_22 rfl (lv_at hl 1 rfl) ?_
      refine zk_bald hx hb hK hP 2 2 rfl rfl (by omega) (by omega) d_Mo_keyIs_23 ?_
      refine lv_iload_n hx hb d_Mo_keyIs_24 rfl (lv_at hl 3 rfl) ?_
      refine lv_icmp_ne (tgt := 32) hx hb d_Mo_keyIs_25 rfl (fun h25 => ?_) (fun h25 => ?_)
      · skip
        refine lv_iconst (v := nI 0) hx hb d_Mo_keyIs_32 (by decide) ?_
        exact zk_zretR hx hb hr hlk hQ (by first | exact zk_t ⟨h5, h15, zk_bi h25⟩ | exact zk_f (fun q => h25 (congrArg zb q.2.2)) | exact zk_f (fun q => h15 q.2.1) | exact zk_f (fun q => absurd q.1 (by omega))) d_Mo_keyIs_33
      · skip
        refine lv_iconst (v := nI 1) hx hb d_Mo_keyIs_28 (by decide) ?_
        refine lv_goto (tgt := 33) hx hb d_Mo_keyIs_29 rfl ?_
        exact zk_zretR hx hb hr hlk hQ (by first | exact zk_t ⟨h5, h15, zk_bi h25⟩ | exact zk_f (fun q => h25 (congrArg zb q.2.2)) | exact zk_f (fun q => h15 q.2.1) | exact zk_f (fun q => absurd q.1 (by omega))) d_Mo_keyIs_33
set_option maxHeartbeats 4000000 in
set_option maxRecDepth 100000 in
theorem c_Mo_key (l : Launch) (D : va_G) (cI cL cZ cW cR : ClassId) (sz : Nat) (o : Nat) (ϕ : Nat → Value) (a_keyColumn a_keyDown : Nat) (kn : Nat) (kf : Nat → Nat) (kg : Nat → Bool) (c0 : Nat) (d0 : Bool) (hkn : kn < 2) : Met l y_Mo_key ws_Mo_key rm0_0 (zPw D vwCl (zT cI cL cZ cW cR) [(o, .inr (9, [(ϕ 0), (ϕ 1), (ϕ 2), (ϕ 3), (ϕ 4), (ϕ 5), (ϕ 6), (ϕ 7), (ϕ 8), (ϕ 9), (ϕ 10), (ϕ 11), (ϕ 12), (ϕ 13), (ϕ 14), (ϕ 15), (ϕ 16), (ϕ 17), (ϕ 18), (ϕ 19), (ϕ 20), (ϕ 21), (ϕ 22), (ϕ 23), (ϕ 24), (ϕ 25), (ϕ 26), (ϕ 27), (ϕ 28), (ϕ 29), .int (nI kn), .ref a_keyColumn, .ref a_keyDown, (ϕ 33), (ϕ 34), (ϕ 35), (ϕ 36), (ϕ 37), (ϕ 38), (ϕ 39), (ϕ 40), (ϕ 41), (ϕ 42), (ϕ 43)])), (a_keyColumn, .inl (cI, 2, .inl (zN kf))), (a_keyDown, .inl (cZ, 2, .inl (zZ kg)))] sz [.ref o, .int (nI c0), .int (zb d0)]) (zQv D vwCl (zT cI cL cZ cW cR) [(o, .inr (9, [(ϕ 0), (ϕ 1), (ϕ 2), (ϕ 3), (ϕ 4), (ϕ 5), (ϕ 6), (ϕ 7), (ϕ 8), (ϕ 9), (ϕ 10), (ϕ 11), (ϕ 12), (ϕ 13), (ϕ 14), (ϕ 15), (ϕ 16), (ϕ 17), (ϕ 18), (ϕ 19), (ϕ 20), (ϕ 21), (ϕ 22), (ϕ 23), (ϕ 24), (ϕ 25), (ϕ 26), (ϕ 27), (ϕ 28), (ϕ 29), .int (nI kn), .ref a_keyColumn, .ref a_keyDown, (ϕ 33), (ϕ 34), (ϕ 35), (ϕ 36), (ϕ 37), (ϕ 38), (ϕ 39), (ϕ 40), (ϕ 41), (ϕ 42), (ϕ 43)])), (a_keyColumn, .inl (cI, 2, .inl (zN kf))), (a_keyDown, .inl (cZ, 2, .inl (zZ kg)))] sz (fun _ : Unit => True) (fun _ => [(o, .inr (9, [(ϕ 0), (ϕ 1), (ϕ 2), (ϕ 3), (ϕ 4), (ϕ 5), (ϕ 6), (ϕ 7), (ϕ 8), (ϕ 9), (ϕ 10), (ϕ 11), (ϕ 12), (ϕ 13), (ϕ 14), (ϕ 15), (ϕ 16), (ϕ 17), (ϕ 18), (ϕ 19), (ϕ 20), (ϕ 21), (ϕ 22), (ϕ 23), (ϕ 24), (ϕ 25), (ϕ 26), (ϕ 27), (ϕ 28), (ϕ 29), .int (nI (kn + 1)), .ref a_keyColumn, .ref a_keyDown, (ϕ 33), (ϕ 34), (ϕ 35), (ϕ 36), (ϕ 37), (ϕ 38), (ϕ 39), (ϕ 40), (ϕ 41), (ϕ 42), (ϕ 43)])), (a_keyColumn, .inl (cI, 2, .inl (zN (va_up kf kn c0)))), (a_keyDown, .inl (cZ, 2, .inl (zZ (va_up kg kn d0))))])) 0 0 (va_A [(o, .inr (9, [(ϕ 0), (ϕ 1), (ϕ 2), (ϕ 3), (ϕ 4), (ϕ 5), (ϕ 6), (ϕ 7), (ϕ 8), (ϕ 9), (ϕ 10), (ϕ 11), (ϕ 12), (ϕ 13), (ϕ 14), (ϕ 15), (ϕ 16), (ϕ 17), (ϕ 18), (ϕ 19), (ϕ 20), (ϕ 21), (ϕ 22), (ϕ 23), (ϕ 24), (ϕ 25), (ϕ 26), (ϕ 27), (ϕ 28), (ϕ 29), .int (nI kn), .ref a_keyColumn, .ref a_keyDown, (ϕ 33), (ϕ 34), (ϕ 35), (ϕ 36), (ϕ 37), (ϕ 38), (ϕ 39), (ϕ 40), (ϕ 41), (ϕ 42), (ϕ 43)])), (a_keyColumn, .inl (cI, 2, .inl (zN kf))), (a_keyDown, .inl (cZ, 2, .inl (zZ kg)))] sz) := by
  refine zk_enterW (cc := b_Mo_key) (maxL := 3) (ret := none) (by decide) rfl (Nat.le_of_ble_eq_true rfl) ?_
  intro p e s m args below meth c ls Q hx hb hml hr hlk hown hts hP hK hN hl hin hsz A hAe hA hD hS hQ
  subst hsz
  have hl : lv_has ls 3 [(0, .ref o), (1, .int (nI c0)), (2, .int (zb d0))] := hl
  refine lv_aload_n hx hb d_Mo_key_0 rfl (lv_at hl 0 rfl) ?_
  refine va_get (C := R_Mo) (T := F_Mo) (N := 44) hx hb hts (fun w h => List.mem_cons_of_mem _ (hin_Mo w h)) hown hK hP 0 rfl rfl 31 (by decide) (hts _ (List.mem_cons_of_mem _ fl_Mo_68)) (fun _ h => h) rfl d_Mo_key_1 ?_
  refine lv_aload_n hx hb d_Mo_key_4 rfl (lv_at hl 0 rfl) ?_
  refine va_get (C := R_Mo) (T := F_Mo) (N := 44) hx hb hts (fun w h => List.mem_cons_of_mem _ (hin_Mo w h)) hown hK hP 0 rfl rfl 30 (by decide) (hts _ (List.mem_cons_of_mem _ fl_Mo_165)) (fun _ h => h) rfl d_Mo_key_5 ?_
  refine lv_iload_n hx hb d_Mo_key_8 rfl (lv_at hl 1 rfl) ?_
  refine zk_nast hx hb hK hP hD hS 1 0 rfl rfl (by omega) (by omega) d_Mo_key_9 (fun H locs hP hD hS => ?_)
  have hP : va_P D vwCl [(o, .inr (9, [(ϕ 0), (ϕ 1), (ϕ 2), (ϕ 3), (ϕ 4), (ϕ 5), (ϕ 6), (ϕ 7), (ϕ 8), (ϕ 9), (ϕ 10), (ϕ 11), (ϕ 12), (ϕ 13), (ϕ 14), (ϕ 15), (ϕ 16), (ϕ 17), (ϕ 18), (ϕ 19), (ϕ 20), (ϕ 21), (ϕ 22), (ϕ 23), (ϕ 24), (ϕ 25), (ϕ 26), (ϕ 27), (ϕ 28), (ϕ 29), .int (nI kn), .ref a_keyColumn, .ref a_keyDown, (ϕ 33), (ϕ 34), (ϕ 35), (ϕ 36), (ϕ 37), (ϕ 38), (ϕ 39), (ϕ 40), (ϕ 41), (ϕ 42), (ϕ 43)])), (a_keyColumn, .inl (cI, 2, .inl (zN (va_up kf kn c0)))), (a_keyDown, .inl (cZ, 2, .inl (zZ kg)))] H := hP
  have hD : va_D A [(o, .inr (9, [(ϕ 0), (ϕ 1), (ϕ 2), (ϕ 3), (ϕ 4), (ϕ 5), (ϕ 6), (ϕ 7), (ϕ 8), (ϕ 9), (ϕ 10), (ϕ 11), (ϕ 12), (ϕ 13), (ϕ 14), (ϕ 15), (ϕ 16), (ϕ 17), (ϕ 18), (ϕ 19), (ϕ 20), (ϕ 21), (ϕ 22), (ϕ 23), (ϕ 24), (ϕ 25), (ϕ 26), (ϕ 27), (ϕ 28), (ϕ 29), .int (nI kn), .ref a_keyColumn, .ref a_keyDown, (ϕ 33), (ϕ 34), (ϕ 35), (ϕ 36), (ϕ 37), (ϕ 38), (ϕ 39), (ϕ 40), (ϕ 41), (ϕ 42), (ϕ 43)])), (a_keyColumn, .inl (cI, 2, .inl (zN (va_up kf kn c0)))), (a_keyDown, .inl (cZ, 2, .inl (zZ kg)))] := hD
  refine lv_aload_n hx hb d_Mo_key_10 rfl (lv_at hl 0 rfl) ?_
  refine va_get (C := R_Mo) (T := F_Mo) (N := 44) hx hb hts (fun w h => List.mem_cons_of_mem _ (hin_Mo w h)) hown hK hP 0 rfl rfl 32 (by decide) (hts _ (List.mem_cons_of_mem _ fl_Mo_71)) (fun _ h => h) rfl d_Mo_key_11 ?_
  refine lv_aload_n hx hb d_Mo_key_14 rfl (lv_at hl 0 rfl) ?_
  refine va_get (C := R_Mo) (T := F_Mo) (N := 44) hx hb hts (fun w h => List.mem_cons_of_mem _ (hin_Mo w h)) hown hK hP 0 rfl rfl 30 (by decide) (hts _ (List.mem_cons_of_mem _ fl_Mo_165)) (fun _ h => h) rfl d_Mo_key_15 ?_
  refine lv_iload_n hx hb d_Mo_key_18 rfl (lv_at hl 2 rfl) ?_
  refine zk_bast hx hb hK hP hD hS 2 2 rfl rfl (by omega) (by omega) d_Mo_key_19 (fun H locs hP hD hS => ?_)
  have hP : va_P D vwCl [(o, .inr (9, [(ϕ 0), (ϕ 1), (ϕ 2), (ϕ 3), (ϕ 4), (ϕ 5), (ϕ 6), (ϕ 7), (ϕ 8), (ϕ 9), (ϕ 10), (ϕ 11), (ϕ 12), (ϕ 13), (ϕ 14), (ϕ 15), (ϕ 16), (ϕ 17), (ϕ 18), (ϕ 19), (ϕ 20), (ϕ 21), (ϕ 22), (ϕ 23), (ϕ 24), (ϕ 25), (ϕ 26), (ϕ 27), (ϕ 28), (ϕ 29), .int (nI kn), .ref a_keyColumn, .ref a_keyDown, (ϕ 33), (ϕ 34), (ϕ 35), (ϕ 36), (ϕ 37), (ϕ 38), (ϕ 39), (ϕ 40), (ϕ 41), (ϕ 42), (ϕ 43)])), (a_keyColumn, .inl (cI, 2, .inl (zN (va_up kf kn c0)))), (a_keyDown, .inl (cZ, 2, .inl (zZ (va_up kg kn d0))))] H := hP
  have hD : va_D A [(o, .inr (9, [(ϕ 0), (ϕ 1), (ϕ 2), (ϕ 3), (ϕ 4), (ϕ 5), (ϕ 6), (ϕ 7), (ϕ 8), (ϕ 9), (ϕ 10), (ϕ 11), (ϕ 12), (ϕ 13), (ϕ 14), (ϕ 15), (ϕ 16), (ϕ 17), (ϕ 18), (ϕ 19), (ϕ 20), (ϕ 21), (ϕ 22), (ϕ 23), (ϕ 24), (ϕ 25), (ϕ 26), (ϕ 27), (ϕ 28), (ϕ 29), .int (nI kn), .ref a_keyColumn, .ref a_keyDown, (ϕ 33), (ϕ 34), (ϕ 35), (ϕ 36), (ϕ 37), (ϕ 38), (ϕ 39), (ϕ 40), (ϕ 41), (ϕ 42), (ϕ 43)])), (a_keyColumn, .inl (cI, 2, .inl (zN (va_up kf kn c0)))), (a_keyDown, .inl (cZ, 2, .inl (zZ (va_up kg kn d0))))] := hD
  refine lv_aload_n hx hb d_Mo_key_20 rfl (lv_at hl 0 rfl) ?_
  refine lv_dup hx hb d_Mo_key_21 rfl ?_
  refine va_get (C := R_Mo) (T := F_Mo) (N := 44) hx hb hts (fun w h => List.mem_cons_of_mem _ (hin_Mo w h)) hown hK hP 0 rfl rfl 30 (by decide) (hts _ (List.mem_cons_of_mem _ fl_Mo_165)) (fun _ h => h) rfl d_Mo_key_22 ?_
  refine lv_iconst (v := nI 1) hx hb d_Mo_key_25 (by decide) ?_
  refine lv_iadd hx hb d_Mo_key_26 ?_
  refine zk_topi (show ((nI kn) + (nI 1)) = nI (kn + 1) from nI_add kn 1) ?_
  refine va_put (D := D) (v := .int (nI (kn + 1))) (ty := .int) (C := R_Mo) (T := F_Mo) (N := 44) hx hb hts (fun w h => List.mem_cons_of_mem _ (hin_Mo w h)) t_Mo t_Mo_ok n_Mo hown hK hP hD hS 0 rfl rfl 30 (by decide) (hts _ (List.mem_cons_of_mem _ fl_Mo_165)) (fun _ h => h) rfl (by decide +kernel) rfl rfl (Nat.le_of_ble_eq_true rfl) d_Mo_key_27 (fun H locs hP hD hS => ?_)
  have hP : va_P D vwCl [(o, .inr (9, [(ϕ 0), (ϕ 1), (ϕ 2), (ϕ 3), (ϕ 4), (ϕ 5), (ϕ 6), (ϕ 7), (ϕ 8), (ϕ 9), (ϕ 10), (ϕ 11), (ϕ 12), (ϕ 13), (ϕ 14), (ϕ 15), (ϕ 16), (ϕ 17), (ϕ 18), (ϕ 19), (ϕ 20), (ϕ 21), (ϕ 22), (ϕ 23), (ϕ 24), (ϕ 25), (ϕ 26), (ϕ 27), (ϕ 28), (ϕ 29), .int (nI (kn + 1)), .ref a_keyColumn, .ref a_keyDown, (ϕ 33), (ϕ 34), (ϕ 35), (ϕ 36), (ϕ 37), (ϕ 38), (ϕ 39), (ϕ 40), (ϕ 41), (ϕ 42), (ϕ 43)])), (a_keyColumn, .inl (cI, 2, .inl (zN (va_up kf kn c0)))), (a_keyDown, .inl (cZ, 2, .inl (zZ (va_up kg kn d0))))] H := hP
  have hD : va_D A [(o, .inr (9, [(ϕ 0), (ϕ 1), (ϕ 2), (ϕ 3), (ϕ 4), (ϕ 5), (ϕ 6), (ϕ 7), (ϕ 8), (ϕ 9), (ϕ 10), (ϕ 11), (ϕ 12), (ϕ 13), (ϕ 14), (ϕ 15), (ϕ 16), (ϕ 17), (ϕ 18), (ϕ 19), (ϕ 20), (ϕ 21), (ϕ 22), (ϕ 23), (ϕ 24), (ϕ 25), (ϕ 26), (ϕ 27), (ϕ 28), (ϕ 29), .int (nI (kn + 1)), .ref a_keyColumn, .ref a_keyDown, (ϕ 33), (ϕ 34), (ϕ 35), (ϕ 36), (ϕ 37), (ϕ 38), (ϕ 39), (ϕ 40), (ϕ 41), (ϕ 42), (ϕ 43)])), (a_keyColumn, .inl (cI, 2, .inl (zN (va_up kf kn c0)))), (a_keyDown, .inl (cZ, 2, .inl (zZ (va_up kg kn d0))))] := hD
  exact zk_vretW hx hb hr hlk hAe hQ hK (()) (trivial) hP hD hS d_Mo_key_30
set_option maxHeartbeats 4000000 in
set_option maxRecDepth 100000 in
theorem c_Mo_byColumn (l : Launch) (D : va_G) (cI cL cZ cW cR : ClassId) (o : Nat) (ϕ : Nat → Value) (a_value a_hole : Nat) (vl : Nat → Int32) (hl_ : Nat → Bool) (i j c0 : Nat) (d0 : Bool) (hi : i < 60) (hj : j < 60) (hc0 : c0 < 9) : Met l y_Mo_byColumn ws_Mo_byColumn rm0_0 (zPr D vwCl (zT cI cL cZ cW cR) [(o, .inr (9, [(ϕ 0), (ϕ 1), (ϕ 2), (ϕ 3), (ϕ 4), (ϕ 5), (ϕ 6), (ϕ 7), (ϕ 8), (ϕ 9), (ϕ 10), (ϕ 11), (ϕ 12), (ϕ 13), (ϕ 14), (ϕ 15), (ϕ 16), (ϕ 17), (ϕ 18), (ϕ 19), (ϕ 20), (ϕ 21), (ϕ 22), (ϕ 23), (ϕ 24), .ref a_value, .ref a_hole, (ϕ 27), (ϕ 28), (ϕ 29), (ϕ 30), (ϕ 31), (ϕ 32), (ϕ 33), (ϕ 34), (ϕ 35), (ϕ 36), (ϕ 37), (ϕ 38), (ϕ 39), (ϕ 40), (ϕ 41), (ϕ 42), (ϕ 43)])), (a_value, .inl (cI, 540, .inl vl)), (a_hole, .inl (cZ, 540, .inl (zZ hl_)))] [.ref o, .int (nI i), .int (nI j), .int (nI c0), .int (zb d0)]) (zSi (sgnC (hl_ (9 * i + c0)) (hl_ (9 * j + c0)) (vl (9 * i + c0)) (vl (9 * j + c0)) d0)) 0 0 (fun _ => False) := by
  refine zk_enterR (cc := b_Mo_byColumn) (maxL := 8) (ret := some .int) (by decide) rfl (Nat.le_of_ble_eq_true rfl) ?_
  intro p e s m args below meth c ls Q hx hb hml hr hlk hown hts hP hK hN hl hQ
  have hl : lv_has ls 8 [(0, .ref o), (1, .int (nI i)), (2, .int (nI j)), (3, .int (nI c0)), (4, .int (zb d0))] := hl
  refine lv_bipush (v := nI 9) hx hb d_Mo_byColumn_0 (by decide) ?_
  refine lv_iload_n hx hb d_Mo_byColumn_2 rfl (lv_at hl 1 rfl) ?_
  refine lv_imul hx hb d_Mo_byColumn_3 ?_
  refine zk_topi (show ((nI 9) * (nI i)) = nI (9 * i) from pk_mul 9 i) ?_
  refine lv_iload_n hx hb d_Mo_byColumn_4 rfl (lv_at hl 3 rfl) ?_
  refine lv_iadd hx hb d_Mo_byColumn_5 ?_
  refine zk_topi (show ((nI (9 * i)) + (nI c0)) = nI (9 * i + c0) from nI_add (9 * i) c0) ?_
  refine lv_istore (lv' := [(5, .int (nI (9 * i + c0))), (0, .ref o), (1, .int (nI i)), (2, .int (nI j)), (3, .int (nI c0)), (4, .int (zb d0))]) hx hb d_Mo_byColumn_6 hl (by decide) rfl (fun ls hl => ?_)
  refine lv_bipush (v := nI 9) hx hb d_Mo_byColumn_8 (by decide) ?_
  refine lv_iload_n hx hb d_Mo_byColumn_10 rfl (lv_at hl 3 rfl) ?_
  refine lv_imul hx hb d_Mo_byColumn_11 ?_
  refine zk_topi (show ((nI 9) * (nI j)) = nI (9 * j) from pk_mul 9 j) ?_
  refine lv_iload_n hx hb d_Mo_byColumn_12 rfl (lv_at hl 4 rfl) ?_
  refine lv_iadd hx hb d_Mo_byColumn_13 ?_
  refine zk_topi (show ((nI (9 * j)) + (nI c0)) = nI (9 * j + c0) from nI_add (9 * j) c0) ?_
  refine lv_istore (lv' := [(6, .int (nI (9 * j + c0))), (5, .int (nI (9 * i + c0))), (0, .ref o), (1, .int (nI i)), (2, .int (nI j)), (3, .int (nI c0)), (4, .int (zb d0))]) hx hb d_Mo_byColumn_14 hl (by decide) rfl (fun ls hl => ?_)
  refine lv_iconst (v := nI 0) hx hb d_Mo_byColumn_16 (by decide) ?_
  refine lv_istore (lv' := [(7, .int (nI 0)), (6, .int (nI (9 * j + c0))), (5, .int (nI (9 * i + c0))), (0, .ref o), (1, .int (nI i)), (2, .int (nI j)), (3, .int (nI c0)), (4, .int (zb d0))]) hx hb d_Mo_byColumn_17 hl (by decide) rfl (fun ls hl => ?_)
  refine lv_aload_n hx hb d_Mo_byColumn_19 rfl (lv_at hl 3 rfl) ?_
  refine va_get (C := R_Mo) (T := F_Mo) (N := 44) hx hb hts (fun w h => List.mem_cons_of_mem _ (hin_Mo w h)) hown hK hP 0 rfl rfl 26 (by decide) (hts _ (List.mem_cons_of_mem _ fl_Mo_56)) (fun _ h => h) rfl d_Mo_byColumn_20 ?_
  refine lv_iload hx hb d_Mo_byColumn_23 (lv_at hl 2 rfl) ?_
  refine zk_bald hx hb hK hP 2 2 rfl rfl (by omega) (by omega) d_Mo_byColumn_25 ?_
  have lb118 : ∀  (sv : Int32), (sv = sgn0 (hl_ (9 * i + c0)) (hl_ (9 * j + c0)) (vl (9 * i + c0)) (vl (9 * j + c0))) → ∀ (ls : Array Slot), lv_has ls 8 [(0, .ref o), (4, .int (zb d0)), (7, .int sv)] → W p l e rm0_0 s m args below meth c s.heap [] 0 0 Q (F0 m 118 ls []) := by
    intro sv hs ls hl
    refine lv_iload hx hb d_Mo_byColumn_118 (lv_at hl 1 rfl) ?_
    refine zk_ifb_eq (tgt := 129) hx hb d_Mo_byColumn_120 rfl (fun h120 => ?_) (fun h120 => ?_)
    · skip
      refine lv_iload hx hb d_Mo_byColumn_129 (lv_at hl 2 rfl) ?_
      exact zk_iretR hx hb hr hlk hQ (by rw [hs, h120]; rfl) d_Mo_byColumn_131
    · skip
      refine lv_iload hx hb d_Mo_byColumn_123 (lv_at hl 2 rfl) ?_
      refine lv_ineg hx hb d_Mo_byColumn_125 ?_
      refine lv_goto (tgt := 131) hx hb d_Mo_byColumn_126 rfl ?_
      exact zk_iretR hx hb hr hlk hQ (by rw [hs, h120]; rfl) d_Mo_byColumn_131
  refine zk_ifb_ne (tgt := 39) hx hb d_Mo_byColumn_26 rfl (fun h26 => ?_) (fun h26 => ?_)
  · skip
    refine lv_aload_n hx hb d_Mo_byColumn_39 rfl (lv_at hl 3 rfl) ?_
    refine va_get (C := R_Mo) (T := F_Mo) (N := 44) hx hb hts (fun w h => List.mem_cons_of_mem _ (hin_Mo w h)) hown hK hP 0 rfl rfl 26 (by decide) (hts _ (List.mem_cons_of_mem _ fl_Mo_56)) (fun _ h => h) rfl d_Mo_byColumn_40 ?_
    refine lv_iload hx hb d_Mo_byColumn_43 (lv_at hl 2 rfl) ?_
    refine zk_bald hx hb hK hP 2 2 rfl rfl (by omega) (by omega) d_Mo_byColumn_45 ?_
    refine zk_ifb_eq (tgt := 67) hx hb d_Mo_byColumn_46 rfl (fun h46 => ?_) (fun h46 => ?_)
    · skip
      have hs : nI 1 = sgn0 (hl_ (9 * i + c0)) (hl_ (9 * j + c0)) (vl (9 * i + c0)) (vl (9 * j + c0)) := by first | exact absurd (h26.symm.trans h46) (by decide) | (rw [h46, h36]; rfl)
      refine lv_iconst (v := nI 1) hx hb d_Mo_byColumn_67 (by decide) ?_
      refine lv_istore (lv' := [(7, .int (nI 1)), (6, .int (nI (9 * j + c0))), (5, .int (nI (9 * i + c0))), (0, .ref o), (1, .int (nI i)), (2, .int (nI j)), (3, .int (nI c0)), (4, .int (zb d0))]) hx hb d_Mo_byColumn_68 hl (by decide) rfl (fun ls hl => ?_)
      refine lv_goto (tgt := 118) hx hb d_Mo_byColumn_70 rfl ?_
      exact lb118 (nI 1) hs ls (lv_sub hl [3, 7, 0] rfl)
    · skip
      refine lv_aload_n hx hb d_Mo_byColumn_49 rfl (lv_at hl 3 rfl) ?_
      refine va_get (C := R_Mo) (T := F_Mo) (N := 44) hx hb hts (fun w h => List.mem_cons_of_mem _ (hin_Mo w h)) hown hK hP 0 rfl rfl 26 (by decide) (hts _ (List.mem_cons_of_mem _ fl_Mo_56)) (fun _ h => h) rfl d_Mo_byColumn_50 ?_
      refine lv_iload hx hb d_Mo_byColumn_53 (lv_at hl 1 rfl) ?_
      refine zk_bald hx hb hK hP 2 2 rfl rfl (by omega) (by omega) d_Mo_byColumn_55 ?_
      refine zk_ifb_eq (tgt := 63) hx hb d_Mo_byColumn_56 rfl (fun h56 => ?_) (fun h56 => ?_)
      · skip
        have hs : (-1 : Int32) = sgn0 (hl_ (9 * i + c0)) (hl_ (9 * j + c0)) (vl (9 * i + c0)) (vl (9 * j + c0)) := by rw [h46, h56]; rfl
        refine lv_iconst (v := (-1)) hx hb d_Mo_byColumn_63 (by decide) ?_
        refine lv_goto (tgt := 68) hx hb d_Mo_byColumn_64 rfl ?_
        refine lv_istore (lv' := [(7, .int (-1)), (6, .int (nI (9 * j + c0))), (5, .int (nI (9 * i + c0))), (0, .ref o), (1, .int (nI i)), (2, .int (nI j)), (3, .int (nI c0)), (4, .int (zb d0))]) hx hb d_Mo_byColumn_68 hl (by decide) rfl (fun ls hl => ?_)
        refine lv_goto (tgt := 118) hx hb d_Mo_byColumn_70 rfl ?_
        exact lb118 (-1) hs ls (lv_sub hl [3, 7, 0] rfl)
      · skip
        have hs : nI 0 = sgn0 (hl_ (9 * i + c0)) (hl_ (9 * j + c0)) (vl (9 * i + c0)) (vl (9 * j + c0)) := by rw [h46, h56]; rfl
        refine lv_iconst (v := nI 0) hx hb d_Mo_byColumn_59 (by decide) ?_
        refine lv_goto (tgt := 68) hx hb d_Mo_byColumn_60 rfl ?_
        refine lv_istore (lv' := [(7, .int (nI 0)), (6, .int (nI (9 * j + c0))), (5, .int (nI (9 * i + c0))), (0, .ref o), (1, .int (nI i)), (2, .int (nI j)), (3, .int (nI c0)), (4, .int (zb d0))]) hx hb d_Mo_byColumn_68 hl (by decide) rfl (fun ls hl => ?_)
        refine lv_goto (tgt := 118) hx hb d_Mo_byColumn_70 rfl ?_
        exact lb118 (nI 0) hs ls (lv_sub hl [3, 7, 0] rfl)
  · skip
    refine lv_aload_n hx hb d_Mo_byColumn_29 rfl (lv_at hl 3 rfl) ?_
    refine va_get (C := R_Mo) (T := F_Mo) (N := 44) hx hb hts (fun w h => List.mem_cons_of_mem _ (hin_Mo w h)) hown hK hP 0 rfl rfl 26 (by decide) (hts _ (List.mem_cons_of_mem _ fl_Mo_56)) (fun _ h => h) rfl d_Mo_byColumn_30 ?_
    refine lv_iload hx hb d_Mo_byColumn_33 (lv_at hl 1 rfl) ?_
    refine zk_bald hx hb hK hP 2 2 rfl rfl (by omega) (by omega) d_Mo_byColumn_35 ?_
    refine zk_ifb_eq (tgt := 73) hx hb d_Mo_byColumn_36 rfl (fun h36 => ?_) (fun h36 => ?_)
    · skip
      refine lv_aload_n hx hb d_Mo_byColumn_73 rfl (lv_at hl 3 rfl) ?_
      refine va_get (C := R_Mo) (T := F_Mo) (N := 44) hx hb hts (fun w h => List.mem_cons_of_mem _ (hin_Mo w h)) hown hK hP 0 rfl rfl 25 (by decide) (hts _ (List.mem_cons_of_mem _ fl_Mo_53)) (fun _ h => h) rfl d_Mo_byColumn_74 ?_
      refine lv_iload hx hb d_Mo_byColumn_77 (lv_at hl 2 rfl) ?_
      refine zk_iald hx hb hK hP 1 0 rfl rfl (by omega) (by omega) d_Mo_byColumn_79 ?_
      refine lv_aload_n hx hb d_Mo_byColumn_80 rfl (lv_at hl 3 rfl) ?_
      refine va_get (C := R_Mo) (T := F_Mo) (N := 44) hx hb hts (fun w h => List.mem_cons_of_mem _ (hin_Mo w h)) hown hK hP 0 rfl rfl 25 (by decide) (hts _ (List.mem_cons_of_mem _ fl_Mo_53)) (fun _ h => h) rfl d_Mo_byColumn_81 ?_
      refine lv_iload hx hb d_Mo_byColumn_84 (lv_at hl 1 rfl) ?_
      refine zk_iald hx hb hK hP 1 0 rfl rfl (by omega) (by omega) d_Mo_byColumn_86 ?_
      refine lv_icmp_ge (tgt := 94) hx hb d_Mo_byColumn_87 rfl (fun h87 => ?_) (fun h87 => ?_)
      · skip
        refine lv_aload_n hx hb d_Mo_byColumn_94 rfl (lv_at hl 3 rfl) ?_
        refine va_get (C := R_Mo) (T := F_Mo) (N := 44) hx hb hts (fun w h => List.mem_cons_of_mem _ (hin_Mo w h)) hown hK hP 0 rfl rfl 25 (by decide) (hts _ (List.mem_cons_of_mem _ fl_Mo_53)) (fun _ h => h) rfl d_Mo_byColumn_95 ?_
        refine lv_iload hx hb d_Mo_byColumn_98 (lv_at hl 2 rfl) ?_
        refine zk_iald hx hb hK hP 1 0 rfl rfl (by omega) (by omega) d_Mo_byColumn_100 ?_
        refine lv_aload_n hx hb d_Mo_byColumn_101 rfl (lv_at hl 3 rfl) ?_
        refine va_get (C := R_Mo) (T := F_Mo) (N := 44) hx hb hts (fun w h => List.mem_cons_of_mem _ (hin_Mo w h)) hown hK hP 0 rfl rfl 25 (by decide) (hts _ (List.mem_cons_of_mem _ fl_Mo_53)) (fun _ h => h) rfl d_Mo_byColumn_102 ?_
        refine lv_iload hx hb d_Mo_byColumn_105 (lv_at hl 1 rfl) ?_
        refine zk_iald hx hb hK hP 1 0 rfl rfl (by omega) (by omega) d_Mo_byColumn_107 ?_
        refine lv_icmp_le (tgt := 115) hx hb d_Mo_byColumn_108 rfl (fun h108 => ?_) (fun h108 => ?_)
        · skip
          have hs : nI 0 = sgn0 (hl_ (9 * i + c0)) (hl_ (9 * j + c0)) (vl (9 * i + c0)) (vl (9 * j + c0)) := by rw [h26, h36]; exact ((if_neg (Int32.not_lt.mpr h87)).trans (if_neg (Int32.not_lt.mpr h108))).symm
          refine lv_iconst (v := nI 0) hx hb d_Mo_byColumn_115 (by decide) ?_
          refine lv_istore (lv' := [(7, .int (nI 0)), (6, .int (nI (9 * j + c0))), (5, .int (nI (9 * i + c0))), (0, .ref o), (1, .int (nI i)), (2, .int (nI j)), (3, .int (nI c0)), (4, .int (zb d0))]) hx hb d_Mo_byColumn_116 hl (by decide) rfl (fun ls hl => ?_)
          exact lb118 (nI 0) hs ls (lv_sub hl [3, 7, 0] rfl)
        · skip
          have hs : nI 1 = sgn0 (hl_ (9 * i + c0)) (hl_ (9 * j + c0)) (vl (9 * i + c0)) (vl (9 * j + c0)) := by rw [h26, h36]; exact ((if_neg (Int32.not_lt.mpr h87)).trans (if_pos (Int32.not_le.mp h108))).symm
          refine lv_iconst (v := nI 1) hx hb d_Mo_byColumn_111 (by decide) ?_
          refine lv_goto (tgt := 116) hx hb d_Mo_byColumn_112 rfl ?_
          refine lv_istore (lv' := [(7, .int (nI 1)), (6, .int (nI (9 * j + c0))), (5, .int (nI (9 * i + c0))), (0, .ref o), (1, .int (nI i)), (2, .int (nI j)), (3, .int (nI c0)), (4, .int (zb d0))]) hx hb d_Mo_byColumn_116 hl (by decide) rfl (fun ls hl => ?_)
          exact lb118 (nI 1) hs ls (lv_sub hl [3, 7, 0] rfl)
      · skip
        have hs : (-1 : Int32) = sgn0 (hl_ (9 * i + c0)) (hl_ (9 * j + c0)) (vl (9 * i + c0)) (vl (9 * j + c0)) := by rw [h26, h36]; exact (if_pos (Int32.not_le.mp h87)).symm
        refine lv_iconst (v := (-1)) hx hb d_Mo_byColumn_90 (by decide) ?_
        refine lv_goto (tgt := 116) hx hb d_Mo_byColumn_91 rfl ?_
        refine lv_istore (lv' := [(7, .int (-1)), (6, .int (nI (9 * j + c0))), (5, .int (nI (9 * i + c0))), (0, .ref o), (1, .int (nI i)), (2, .int (nI j)), (3, .int (nI c0)), (4, .int (zb d0))]) hx hb d_Mo_byColumn_116 hl (by decide) rfl (fun ls hl => ?_)
        exact lb118 (-1) hs ls (lv_sub hl [3, 7, 0] rfl)
    · skip
      refine lv_aload_n hx hb d_Mo_byColumn_39 rfl (lv_at hl 3 rfl) ?_
      refine va_get (C := R_Mo) (T := F_Mo) (N := 44) hx hb hts (fun w h => List.mem_cons_of_mem _ (hin_Mo w h)) hown hK hP 0 rfl rfl 26 (by decide) (hts _ (List.mem_cons_of_mem _ fl_Mo_56)) (fun _ h => h) rfl d_Mo_byColumn_40 ?_
      refine lv_iload hx hb d_Mo_byColumn_43 (lv_at hl 2 rfl) ?_
      refine zk_bald hx hb hK hP 2 2 rfl rfl (by omega) (by omega) d_Mo_byColumn_45 ?_
      refine zk_ifb_eq (tgt := 67) hx hb d_Mo_byColumn_46 rfl (fun h46 => ?_) (fun h46 => ?_)
      · skip
        have hs : nI 1 = sgn0 (hl_ (9 * i + c0)) (hl_ (9 * j + c0)) (vl (9 * i + c0)) (vl (9 * j + c0)) := by first | exact absurd (h26.symm.trans h46) (by decide) | (rw [h46, h36]; rfl)
        refine lv_iconst (v := nI 1) hx hb d_Mo_byColumn_67 (by decide) ?_
        refine lv_istore (lv' := [(7, .int (nI 1)), (6, .int (nI (9 * j + c0))), (5, .int (nI (9 * i + c0))), (0, .ref o), (1, .int (nI i)), (2, .int (nI j)), (3, .int (nI c0)), (4, .int (zb d0))]) hx hb d_Mo_byColumn_68 hl (by decide) rfl (fun ls hl => ?_)
        refine lv_goto (tgt := 118) hx hb d_Mo_byColumn_70 rfl ?_
        exact lb118 (nI 1) hs ls (lv_sub hl [3, 7, 0] rfl)
      · skip
        refine lv_aload_n hx hb d_Mo_byColumn_49 rfl (lv_at hl 3 rfl) ?_
        refine va_get (C := R_Mo) (T := F_Mo) (N := 44) hx hb hts (fun w h => List.mem_cons_of_mem _ (hin_Mo w h)) hown hK hP 0 rfl rfl 26 (by decide) (hts _ (List.mem_cons_of_mem _ fl_Mo_56)) (fun _ h => h) rfl d_Mo_byColumn_50 ?_
        refine lv_iload hx hb d_Mo_byColumn_53 (lv_at hl 1 rfl) ?_
        refine zk_bald hx hb hK hP 2 2 rfl rfl (by omega) (by omega) d_Mo_byColumn_55 ?_
        refine zk_ifb_eq (tgt := 63) hx hb d_Mo_byColumn_56 rfl (fun h56 => ?_) (fun h56 => ?_)
        · skip
          have hs : (-1 : Int32) = sgn0 (hl_ (9 * i + c0)) (hl_ (9 * j + c0)) (vl (9 * i + c0)) (vl (9 * j + c0)) := by rw [h46, h56]; rfl
          refine lv_iconst (v := (-1)) hx hb d_Mo_byColumn_63 (by decide) ?_
          refine lv_goto (tgt := 68) hx hb d_Mo_byColumn_64 rfl ?_
          refine lv_istore (lv' := [(7, .int (-1)), (6, .int (nI (9 * j + c0))), (5, .int (nI (9 * i + c0))), (0, .ref o), (1, .int (nI i)), (2, .int (nI j)), (3, .int (nI c0)), (4, .int (zb d0))]) hx hb d_Mo_byColumn_68 hl (by decide) rfl (fun ls hl => ?_)
          refine lv_goto (tgt := 118) hx hb d_Mo_byColumn_70 rfl ?_
          exact lb118 (-1) hs ls (lv_sub hl [3, 7, 0] rfl)
        · skip
          have hs : nI 0 = sgn0 (hl_ (9 * i + c0)) (hl_ (9 * j + c0)) (vl (9 * i + c0)) (vl (9 * j + c0)) := by rw [h46, h56]; rfl
          refine lv_iconst (v := nI 0) hx hb d_Mo_byColumn_59 (by decide) ?_
          refine lv_goto (tgt := 68) hx hb d_Mo_byColumn_60 rfl ?_
          refine lv_istore (lv' := [(7, .int (nI 0)), (6, .int (nI (9 * j + c0))), (5, .int (nI (9 * i + c0))), (0, .ref o), (1, .int (nI i)), (2, .int (nI j)), (3, .int (nI c0)), (4, .int (zb d0))]) hx hb d_Mo_byColumn_68 hl (by decide) rfl (fun ls hl => ?_)
          refine lv_goto (tgt := 118) hx hb d_Mo_byColumn_70 rfl ?_
          exact lb118 (nI 0) hs ls (lv_sub hl [3, 7, 0] rfl)
set_option maxHeartbeats 4000000 in
set_option maxRecDepth 100000 in
theorem c_Mo_samePlace_s (l : Launch) (D : va_G) (cI cL cZ cW cR : ClassId) (o : Nat) (ϕ : Nat → Value) (a_value a_hole : Nat) (vl : Nat → Int32) (hl_ : Nat → Bool) (i j c0 : Nat) (hi : i < 60) (hj : j < 60) (hc0 : c0 < 9) : Met l y_Mo_samePlace ws_Mo_samePlace rm1_30 (zPr D vwCl (zT cI cL cZ cW cR) [(o, .inr (9, [(ϕ 0), (ϕ 1), (ϕ 2), (ϕ 3), (ϕ 4), (ϕ 5), (ϕ 6), (ϕ 7), (ϕ 8), (ϕ 9), (ϕ 10), (ϕ 11), (ϕ 12), (ϕ 13), (ϕ 14), (ϕ 15), (ϕ 16), (ϕ 17), (ϕ 18), (ϕ 19), (ϕ 20), (ϕ 21), (ϕ 22), (ϕ 23), (ϕ 24), .ref a_value, .ref a_hole, (ϕ 27), (ϕ 28), (ϕ 29), (ϕ 30), (ϕ 31), (ϕ 32), (ϕ 33), (ϕ 34), (ϕ 35), (ϕ 36), (ϕ 37), (ϕ 38), (ϕ 39), (ϕ 40), (ϕ 41), (ϕ 42), (ϕ 43)])), (a_value, .inl (cI, 540, .inl vl)), (a_hole, .inl (cZ, 540, .inl (zZ hl_)))] [.ref o, .int (nI i), .int (nI j), .int (nI c0)]) (zSi (zb (decide (sgnC (hl_ (9 * i + c0)) (hl_ (9 * j + c0)) (vl (9 * i + c0)) (vl (9 * j + c0)) false = 0)))) 0 0 (fun _ => False) := by
  refine zk_enterR (cc := b_Mo_samePlace) (maxL := 4) (ret := some .boolean) (by decide) rfl (Nat.le_of_ble_eq_true rfl) ?_
  intro p e s m args below meth c ls Q hx hb hml hr hlk hown hts hP hK hN hl hQ
  have hl : lv_has ls 4 [(0, .ref o), (1, .int (nI i)), (2, .int (nI j)), (3, .int (nI c0))] := hl
  refine lv_iload_n hx hb d_Mo_samePlace_0 rfl (lv_at hl 3 rfl) ?_
  refine zk_if_lt (tgt := 15) hx hb d_Mo_samePlace_1 rfl (by omega) ?_
  refine lv_aload_n hx hb d_Mo_samePlace_4 rfl (lv_at hl 0 rfl) ?_
  refine lv_iload_n hx hb d_Mo_samePlace_5 rfl (lv_at hl 1 rfl) ?_
  refine lv_iload_n hx hb d_Mo_samePlace_6 rfl (lv_at hl 2 rfl) ?_
  refine lv_iload_n hx hb d_Mo_samePlace_7 rfl (lv_at hl 3 rfl) ?_
  refine lv_iconst (v := zb false) hx hb d_Mo_samePlace_8 (by decide) ?_
  have hPc := hP.sub (ws' := [(o, .inr (9, [(ϕ 0), (ϕ 1), (ϕ 2), (ϕ 3), (ϕ 4), (ϕ 5), (ϕ 6), (ϕ 7), (ϕ 8), (ϕ 9), (ϕ 10), (ϕ 11), (ϕ 12), (ϕ 13), (ϕ 14), (ϕ 15), (ϕ 16), (ϕ 17), (ϕ 18), (ϕ 19), (ϕ 20), (ϕ 21), (ϕ 22), (ϕ 23), (ϕ 24), .ref a_value, .ref a_hole, (ϕ 27), (ϕ 28), (ϕ 29), (ϕ 30), (ϕ 31), (ϕ 32), (ϕ 33), (ϕ 34), (ϕ 35), (ϕ 36), (ϕ 37), (ϕ 38), (ϕ 39), (ϕ 40), (ϕ 41), (ϕ 42), (ϕ 43)])), (a_value, .inl (cI, 540, .inl vl)), (a_hole, .inl (cZ, 540, .inl (zZ hl_)))]) [0, 1, 2] rfl
  refine zk_ri (va_runV (As := [.int (nI i), .int (nI j), .int (nI c0), .int (zb false)]) (rest := []) ⟨hx, hb, hml, hown, hts⟩ (c_Mo_byColumn l D cI cL cZ cW cR o (vp_V [(ϕ 0), (ϕ 1), (ϕ 2), (ϕ 3), (ϕ 4), (ϕ 5), (ϕ 6), (ϕ 7), (ϕ 8), (ϕ 9), (ϕ 10), (ϕ 11), (ϕ 12), (ϕ 13), (ϕ 14), (ϕ 15), (ϕ 16), (ϕ 17), (ϕ 18), (ϕ 19), (ϕ 20), (ϕ 21), (ϕ 22), (ϕ 23), (ϕ 24), .ref a_value, .ref a_hole, (ϕ 27), (ϕ 28), (ϕ 29), (ϕ 30), (ϕ 31), (ϕ 32), (ϕ 33), (ϕ 34), (ϕ 35), (ϕ 36), (ϕ 37), (ϕ 38), (ϕ 39), (ϕ 40), (ϕ 41), (ϕ 42), (ϕ 43)]) a_value a_hole vl hl_ i j c0 false (by omega) (by omega) (by omega)) (cwV 4 hts (zk_gV (fun _ h => List.mem_cons_of_mem _ h) ml_Mo_168 im_Mo_byColumn se_Mo_byColumn in_Mo co_Mo_byColumn) rfl rfl rfl ⟨rfl, hd_Mo_byColumn⟩ ⟨Nat.le_of_ble_eq_true rfl, Nat.le_of_ble_eq_true rfl⟩) (zk_vr (q0 := 0) hN hK hPc rfl rfl) rfl rfl hl.1 rfl (lv_room (Nat.le_of_ble_eq_true rfl)) d_Mo_samePlace_9 ⟨Nat.zero_le _, Nat.zero_le _⟩) ?_
  refine lv_if_ne (tgt := 19) hx hb d_Mo_samePlace_12 rfl (fun h12 => ?_) (fun h12 => ?_)
  · skip
    refine lv_iconst (v := nI 0) hx hb d_Mo_samePlace_19 (by decide) ?_
    exact zk_zretR hx hb hr hlk hQ (by first | exact zk_t h12 | exact zk_f h12) d_Mo_samePlace_20
  · skip
    refine lv_iconst (v := nI 1) hx hb d_Mo_samePlace_15 (by decide) ?_
    refine lv_goto (tgt := 20) hx hb d_Mo_samePlace_16 rfl ?_
    exact zk_zretR hx hb hr hlk hQ (by first | exact zk_t h12 | exact zk_f h12) d_Mo_samePlace_20
set_option maxHeartbeats 4000000 in
set_option maxRecDepth 100000 in
theorem c_Mo_samePlace_n (l : Launch) (D : va_G) (cI cL cZ cW cR : ClassId) (o : Nat) (ϕ : Nat → Value) (a_value a_hole : Nat) (vl : Nat → Int32) (hl_ : Nat → Bool) (i j : Nat) : Met l y_Mo_samePlace ws_Mo_samePlace rm1_30 (zPr D vwCl (zT cI cL cZ cW cR) [(o, .inr (9, [(ϕ 0), (ϕ 1), (ϕ 2), (ϕ 3), (ϕ 4), (ϕ 5), (ϕ 6), (ϕ 7), (ϕ 8), (ϕ 9), (ϕ 10), (ϕ 11), (ϕ 12), (ϕ 13), (ϕ 14), (ϕ 15), (ϕ 16), (ϕ 17), (ϕ 18), (ϕ 19), (ϕ 20), (ϕ 21), (ϕ 22), (ϕ 23), (ϕ 24), .ref a_value, .ref a_hole, (ϕ 27), (ϕ 28), (ϕ 29), (ϕ 30), (ϕ 31), (ϕ 32), (ϕ 33), (ϕ 34), (ϕ 35), (ϕ 36), (ϕ 37), (ϕ 38), (ϕ 39), (ϕ 40), (ϕ 41), (ϕ 42), (ϕ 43)])), (a_value, .inl (cI, 540, .inl vl)), (a_hole, .inl (cZ, 540, .inl (zZ hl_)))] [.ref o, .int (nI i), .int (nI j), .int (-1)]) (zSi (zb true)) 0 0 (fun _ => False) := by
  refine zk_enterR (cc := b_Mo_samePlace) (maxL := 4) (ret := some .boolean) (by decide) rfl (Nat.le_of_ble_eq_true rfl) ?_
  intro p e s m args below meth c ls Q hx hb hml hr hlk hown hts hP hK hN hl hQ
  have hl : lv_has ls 4 [(0, .ref o), (1, .int (nI i)), (2, .int (nI j)), (3, .int (-1))] := hl
  refine lv_iload_n hx hb d_Mo_samePlace_0 rfl (lv_at hl 3 rfl) ?_
  refine lv_if_lt (tgt := 15) hx hb d_Mo_samePlace_1 rfl (fun _ => ?_) (fun hq => absurd hq (fun q => q (by decide)))
  refine lv_iconst (v := zb true) hx hb d_Mo_samePlace_15 (by decide) ?_
  refine lv_goto (tgt := 20) hx hb d_Mo_samePlace_16 rfl ?_
  exact zk_zretR hx hb hr hlk hQ (rfl) d_Mo_samePlace_20
set_option maxHeartbeats 4000000 in
set_option maxRecDepth 100000 in
theorem c_Mo_before (l : Launch) (D : va_G) (cI cL cZ cW cR : ClassId) (o : Nat) (ϕ : Nat → Value) (a_value a_hole a_first a_second a_keyColumn a_keyDown : Nat) (kn : Nat) (vl : Nat → Int32) (hl_ : Nat → Bool) (fi : Nat → Nat) (se : Nat → Int32) (kf : Nat → Nat) (kg : Nat → Bool) (i j : Nat) (hi : i < 60) (hj : j < 60) (hkn : kn ≤ 2) (hkf : ∀ t, t < kn → kf t < 9) (hfi : ∀ z, z < 60 → fi z < 1000) : Met l y_Mo_before ws_Mo_before rm1_30 (zPr D vwCl (zT cI cL cZ cW cR) [(o, .inr (9, [(ϕ 0), (ϕ 1), (ϕ 2), (ϕ 3), (ϕ 4), (ϕ 5), (ϕ 6), (ϕ 7), (ϕ 8), (ϕ 9), (ϕ 10), (ϕ 11), (ϕ 12), (ϕ 13), (ϕ 14), (ϕ 15), (ϕ 16), (ϕ 17), (ϕ 18), (ϕ 19), (ϕ 20), (ϕ 21), (ϕ 22), (ϕ 23), (ϕ 24), .ref a_value, .ref a_hole, .ref a_first, .ref a_second, (ϕ 29), .int (nI kn), .ref a_keyColumn, .ref a_keyDown, (ϕ 33), (ϕ 34), (ϕ 35), (ϕ 36), (ϕ 37), (ϕ 38), (ϕ 39), (ϕ 40), (ϕ 41), (ϕ 42), (ϕ 43)])), (a_value, .inl (cI, 540, .inl vl)), (a_hole, .inl (cZ, 540, .inl (zZ hl_))), (a_first, .inl (cI, 60, .inl (zN fi))), (a_second, .inl (cI, 60, .inl se)), (a_keyColumn, .inl (cI, 2, .inl (zN kf))), (a_keyDown, .inl (cZ, 2, .inl (zZ kg)))] [.ref o, .int (nI i), .int (nI j)]) (zSi (zb (mLt hl_ vl fi se kf kg kn 0 i j))) 0 0 (fun _ => False) := by
  refine zk_enterR (cc := b_Mo_before) (maxL := 5) (ret := some .boolean) (by decide) rfl (Nat.le_of_ble_eq_true rfl) ?_
  intro p e s m args below meth c ls Q hx hb hml hr hlk hown hts hP hK hN hl hQ
  have hl : lv_has ls 5 [(0, .ref o), (1, .int (nI i)), (2, .int (nI j))] := hl
  refine lv_iconst (v := nI 0) hx hb d_Mo_before_0 (by decide) ?_
  refine lv_istore_n (lv' := [(3, .int (nI 0)), (0, .ref o), (1, .int (nI i)), (2, .int (nI j))]) hx hb d_Mo_before_1 rfl hl (by decide) rfl (fun ls hl => ?_)
  have lb2 : ∀ (fuel2 : Nat) (t : Nat), (t ≤ kn) → (mLt hl_ vl fi se kf kg (kn - t) t i j = mLt hl_ vl fi se kf kg kn 0 i j) → kn - t < fuel2 → ∀ (ls : Array Slot), lv_has ls 5 [(0, .ref o), (1, .int (nI i)), (2, .int (nI j)), (3, .int (nI t))] → W p l e rm1_30 s m args below meth c s.heap [] 0 0 Q (F0 m 2 ls []) := by
    intro fuel2
    induction fuel2 with
    | zero => intro t ht he hfu2; exact absurd hfu2 (Nat.not_lt_zero _)
    | succ fuel2 ih2 =>
      intro t ht he hfu2 ls hl
      refine lv_iload_n hx hb d_Mo_before_2 rfl (lv_at hl 3 rfl) ?_
      refine lv_aload_n hx hb d_Mo_before_3 rfl (lv_at hl 0 rfl) ?_
      refine va_get (C := R_Mo) (T := F_Mo) (N := 44) hx hb hts (fun w h => List.mem_cons_of_mem _ (hin_Mo w h)) hown hK hP 0 rfl rfl 30 (by decide) (hts _ (List.mem_cons_of_mem _ fl_Mo_165)) (fun _ h => h) rfl d_Mo_before_4 ?_
      refine zk_icmp_ge (tgt := 52) hx hb d_Mo_before_7 rfl (by omega) (by omega) (fun h7 => ?_) (fun h7 => ?_)
      · skip
        have hf1 := hfi i hi
        have hf2 := hfi j hj
        have hz : mLt hl_ vl fi se kf kg kn 0 i j = decide (fi i < fi j ∨ (fi i = fi j ∧ se i < se j)) := by rw [← he, show kn - t = 0 by omega]; rfl
        refine lv_aload_n hx hb d_Mo_before_52 rfl (lv_at hl 0 rfl) ?_
        refine va_get (C := R_Mo) (T := F_Mo) (N := 44) hx hb hts (fun w h => List.mem_cons_of_mem _ (hin_Mo w h)) hown hK hP 0 rfl rfl 27 (by decide) (hts _ (List.mem_cons_of_mem _ fl_Mo_59)) (fun _ h => h) rfl d_Mo_before_53 ?_
        refine lv_iload_n hx hb d_Mo_before_56 rfl (lv_at hl 1 rfl) ?_
        refine zk_nald hx hb hK hP 3 0 rfl rfl (by omega) (by omega) d_Mo_before_57 ?_
        refine lv_aload_n hx hb d_Mo_before_58 rfl (lv_at hl 0 rfl) ?_
        refine va_get (C := R_Mo) (T := F_Mo) (N := 44) hx hb hts (fun w h => List.mem_cons_of_mem _ (hin_Mo w h)) hown hK hP 0 rfl rfl 27 (by decide) (hts _ (List.mem_cons_of_mem _ fl_Mo_59)) (fun _ h => h) rfl d_Mo_before_59 ?_
        refine lv_iload_n hx hb d_Mo_before_62 rfl (lv_at hl 2 rfl) ?_
        refine zk_nald hx hb hK hP 3 0 rfl rfl (by omega) (by omega) d_Mo_before_63 ?_
        refine zk_icmp_lt (tgt := 97) hx hb d_Mo_before_64 rfl (by omega) (by omega) (fun h64 => ?_) (fun h64 => ?_)
        · skip
          refine lv_iconst (v := nI 1) hx hb d_Mo_before_97 (by decide) ?_
          refine lv_goto (tgt := 102) hx hb d_Mo_before_98 rfl ?_
          exact zk_zretR hx hb hr hlk hQ (by rw [hz]; first | exact zk_t (Or.inl h64) | exact zk_t (Or.inr ⟨h79, Int32.not_le.mp h94⟩) | exact zk_f (fun q => q.elim (by omega) (fun y => absurd y.2 (Int32.not_lt.mpr h94))) | exact zk_f (fun q => q.elim (by omega) (fun y => h79 y.1))) d_Mo_before_102
        · skip
          refine lv_aload_n hx hb d_Mo_before_67 rfl (lv_at hl 0 rfl) ?_
          refine va_get (C := R_Mo) (T := F_Mo) (N := 44) hx hb hts (fun w h => List.mem_cons_of_mem _ (hin_Mo w h)) hown hK hP 0 rfl rfl 27 (by decide) (hts _ (List.mem_cons_of_mem _ fl_Mo_59)) (fun _ h => h) rfl d_Mo_before_68 ?_
          refine lv_iload_n hx hb d_Mo_before_71 rfl (lv_at hl 1 rfl) ?_
          refine zk_nald hx hb hK hP 3 0 rfl rfl (by omega) (by omega) d_Mo_before_72 ?_
          refine lv_aload_n hx hb d_Mo_before_73 rfl (lv_at hl 0 rfl) ?_
          refine va_get (C := R_Mo) (T := F_Mo) (N := 44) hx hb hts (fun w h => List.mem_cons_of_mem _ (hin_Mo w h)) hown hK hP 0 rfl rfl 27 (by decide) (hts _ (List.mem_cons_of_mem _ fl_Mo_59)) (fun _ h => h) rfl d_Mo_before_74 ?_
          refine lv_iload_n hx hb d_Mo_before_77 rfl (lv_at hl 2 rfl) ?_
          refine zk_nald hx hb hK hP 3 0 rfl rfl (by omega) (by omega) d_Mo_before_78 ?_
          refine zk_icmp_ne (tgt := 101) hx hb d_Mo_before_79 rfl (by omega) (by omega) (fun h79 => ?_) (fun h79 => ?_)
          · skip
            refine lv_iconst (v := nI 0) hx hb d_Mo_before_101 (by decide) ?_
            exact zk_zretR hx hb hr hlk hQ (by rw [hz]; first | exact zk_t (Or.inl h64) | exact zk_t (Or.inr ⟨h79, Int32.not_le.mp h94⟩) | exact zk_f (fun q => q.elim (by omega) (fun y => absurd y.2 (Int32.not_lt.mpr h94))) | exact zk_f (fun q => q.elim (by omega) (fun y => h79 y.1))) d_Mo_before_102
          · skip
            refine lv_aload_n hx hb d_Mo_before_82 rfl (lv_at hl 0 rfl) ?_
            refine va_get (C := R_Mo) (T := F_Mo) (N := 44) hx hb hts (fun w h => List.mem_cons_of_mem _ (hin_Mo w h)) hown hK hP 0 rfl rfl 28 (by decide) (hts _ (List.mem_cons_of_mem _ fl_Mo_62)) (fun _ h => h) rfl d_Mo_before_83 ?_
            refine lv_iload_n hx hb d_Mo_before_86 rfl (lv_at hl 1 rfl) ?_
            refine zk_iald hx hb hK hP 4 0 rfl rfl (by omega) (by omega) d_Mo_before_87 ?_
            refine lv_aload_n hx hb d_Mo_before_88 rfl (lv_at hl 0 rfl) ?_
            refine va_get (C := R_Mo) (T := F_Mo) (N := 44) hx hb hts (fun w h => List.mem_cons_of_mem _ (hin_Mo w h)) hown hK hP 0 rfl rfl 28 (by decide) (hts _ (List.mem_cons_of_mem _ fl_Mo_62)) (fun _ h => h) rfl d_Mo_before_89 ?_
            refine lv_iload_n hx hb d_Mo_before_92 rfl (lv_at hl 2 rfl) ?_
            refine zk_iald hx hb hK hP 4 0 rfl rfl (by omega) (by omega) d_Mo_before_93 ?_
            refine lv_icmp_ge (tgt := 101) hx hb d_Mo_before_94 rfl (fun h94 => ?_) (fun h94 => ?_)
            · skip
              refine lv_iconst (v := nI 0) hx hb d_Mo_before_101 (by decide) ?_
              exact zk_zretR hx hb hr hlk hQ (by rw [hz]; first | exact zk_t (Or.inl h64) | exact zk_t (Or.inr ⟨h79, Int32.not_le.mp h94⟩) | exact zk_f (fun q => q.elim (by omega) (fun y => absurd y.2 (Int32.not_lt.mpr h94))) | exact zk_f (fun q => q.elim (by omega) (fun y => h79 y.1))) d_Mo_before_102
            · skip
              refine lv_iconst (v := nI 1) hx hb d_Mo_before_97 (by decide) ?_
              refine lv_goto (tgt := 102) hx hb d_Mo_before_98 rfl ?_
              exact zk_zretR hx hb hr hlk hQ (by rw [hz]; first | exact zk_t (Or.inl h64) | exact zk_t (Or.inr ⟨h79, Int32.not_le.mp h94⟩) | exact zk_f (fun q => q.elim (by omega) (fun y => absurd y.2 (Int32.not_lt.mpr h94))) | exact zk_f (fun q => q.elim (by omega) (fun y => h79 y.1))) d_Mo_before_102
      · skip
        refine lv_aload_n hx hb d_Mo_before_10 rfl (lv_at hl 0 rfl) ?_
        refine lv_iload_n hx hb d_Mo_before_11 rfl (lv_at hl 1 rfl) ?_
        refine lv_iload_n hx hb d_Mo_before_12 rfl (lv_at hl 2 rfl) ?_
        refine lv_aload_n hx hb d_Mo_before_13 rfl (lv_at hl 0 rfl) ?_
        refine va_get (C := R_Mo) (T := F_Mo) (N := 44) hx hb hts (fun w h => List.mem_cons_of_mem _ (hin_Mo w h)) hown hK hP 0 rfl rfl 31 (by decide) (hts _ (List.mem_cons_of_mem _ fl_Mo_68)) (fun _ h => h) rfl d_Mo_before_14 ?_
        refine lv_iload_n hx hb d_Mo_before_17 rfl (lv_at hl 3 rfl) ?_
        refine zk_nald hx hb hK hP 5 0 rfl rfl (by omega) (by omega) d_Mo_before_18 ?_
        refine lv_aload_n hx hb d_Mo_before_19 rfl (lv_at hl 0 rfl) ?_
        refine va_get (C := R_Mo) (T := F_Mo) (N := 44) hx hb hts (fun w h => List.mem_cons_of_mem _ (hin_Mo w h)) hown hK hP 0 rfl rfl 32 (by decide) (hts _ (List.mem_cons_of_mem _ fl_Mo_71)) (fun _ h => h) rfl d_Mo_before_20 ?_
        refine lv_iload_n hx hb d_Mo_before_23 rfl (lv_at hl 3 rfl) ?_
        refine zk_bald hx hb hK hP 6 2 rfl rfl (by omega) (by omega) d_Mo_before_24 ?_
        have hPc := hP.sub (ws' := [(o, .inr (9, [(ϕ 0), (ϕ 1), (ϕ 2), (ϕ 3), (ϕ 4), (ϕ 5), (ϕ 6), (ϕ 7), (ϕ 8), (ϕ 9), (ϕ 10), (ϕ 11), (ϕ 12), (ϕ 13), (ϕ 14), (ϕ 15), (ϕ 16), (ϕ 17), (ϕ 18), (ϕ 19), (ϕ 20), (ϕ 21), (ϕ 22), (ϕ 23), (ϕ 24), .ref a_value, .ref a_hole, .ref a_first, .ref a_second, (ϕ 29), .int (nI kn), .ref a_keyColumn, .ref a_keyDown, (ϕ 33), (ϕ 34), (ϕ 35), (ϕ 36), (ϕ 37), (ϕ 38), (ϕ 39), (ϕ 40), (ϕ 41), (ϕ 42), (ϕ 43)])), (a_value, .inl (cI, 540, .inl vl)), (a_hole, .inl (cZ, 540, .inl (zZ hl_)))]) [0, 1, 2] rfl
        refine zk_ri (va_runV (As := [.int (nI i), .int (nI j), .int (nI (kf t)), .int (zb (kg t))]) (rest := []) ⟨hx, hb, hml, hown, hts⟩ (c_Mo_byColumn l D cI cL cZ cW cR o (vp_V [(ϕ 0), (ϕ 1), (ϕ 2), (ϕ 3), (ϕ 4), (ϕ 5), (ϕ 6), (ϕ 7), (ϕ 8), (ϕ 9), (ϕ 10), (ϕ 11), (ϕ 12), (ϕ 13), (ϕ 14), (ϕ 15), (ϕ 16), (ϕ 17), (ϕ 18), (ϕ 19), (ϕ 20), (ϕ 21), (ϕ 22), (ϕ 23), (ϕ 24), .ref a_value, .ref a_hole, .ref a_first, .ref a_second, (ϕ 29), .int (nI kn), .ref a_keyColumn, .ref a_keyDown, (ϕ 33), (ϕ 34), (ϕ 35), (ϕ 36), (ϕ 37), (ϕ 38), (ϕ 39), (ϕ 40), (ϕ 41), (ϕ 42), (ϕ 43)]) a_value a_hole vl hl_ i j (kf t) (kg t) hi hj (hkf _ (by omega))) (cwV 4 hts (zk_gV (fun _ h => List.mem_cons_of_mem _ h) ml_Mo_168 im_Mo_byColumn se_Mo_byColumn in_Mo co_Mo_byColumn) rfl rfl rfl ⟨rfl, hd_Mo_byColumn⟩ ⟨Nat.le_of_ble_eq_true rfl, Nat.le_of_ble_eq_true rfl⟩) (zk_vr (q0 := 0) hN hK hPc rfl rfl) rfl rfl hl.1 rfl (lv_room (Nat.le_of_ble_eq_true rfl)) d_Mo_before_25 ⟨Nat.zero_le _, Nat.zero_le _⟩) ?_
        refine lv_istore (lv' := [(4, .int (mS hl_ vl kf kg i j t)), (0, .ref o), (1, .int (nI i)), (2, .int (nI j)), (3, .int (nI t))]) hx hb d_Mo_before_28 hl (by decide) rfl (fun ls hl => ?_)
        refine lv_iload hx hb d_Mo_before_30 (lv_at hl 0 rfl) ?_
        refine lv_if_eq (tgt := 46) hx hb d_Mo_before_32 rfl (fun h32 => ?_) (fun h32 => ?_)
        · skip
          refine lv_iinc (k := 4) (v := nI (t + 1)) (lv' := [(3, .int (nI (t + 1))), (4, .int (mS hl_ vl kf kg i j t)), (0, .ref o), (1, .int (nI i)), (2, .int (nI j))]) hx hb d_Mo_before_46 hl rfl (nI_add t 1) (by decide) rfl (fun ls hl => ?_)
          refine lv_goto (tgt := 2) hx hb d_Mo_before_49 rfl ?_
          exact ih2 (t + 1) (by omega) (by rw [← he, show kn - t = (kn - (t + 1)) + 1 by omega]; simp only [mLt]; rw [if_pos h32]) (by omega) ls (lv_sub hl [2, 3, 4, 0] rfl)
        · skip
          refine lv_iload hx hb d_Mo_before_35 (lv_at hl 0 rfl) ?_
          refine lv_if_ge (tgt := 44) hx hb d_Mo_before_37 rfl (fun h37 => ?_) (fun h37 => ?_)
          · skip
            have hz : mLt hl_ vl fi se kf kg kn 0 i j = decide (mS hl_ vl kf kg i j t < 0) := by rw [← he, show kn - t = (kn - (t + 1)) + 1 by omega]; simp only [mLt]; rw [if_neg h32]
            refine lv_iconst (v := nI 0) hx hb d_Mo_before_44 (by decide) ?_
            exact zk_zretR hx hb hr hlk hQ (by rw [hz]; first | exact zk_f (Int32.not_lt.mpr h37) | exact zk_t (Int32.not_le.mp h37)) d_Mo_before_45
          · skip
            have hz : mLt hl_ vl fi se kf kg kn 0 i j = decide (mS hl_ vl kf kg i j t < 0) := by rw [← he, show kn - t = (kn - (t + 1)) + 1 by omega]; simp only [mLt]; rw [if_neg h32]
            refine lv_iconst (v := nI 1) hx hb d_Mo_before_40 (by decide) ?_
            refine lv_goto (tgt := 45) hx hb d_Mo_before_41 rfl ?_
            exact zk_zretR hx hb hr hlk hQ (by rw [hz]; first | exact zk_f (Int32.not_lt.mpr h37) | exact zk_t (Int32.not_le.mp h37)) d_Mo_before_45
  exact lb2 _ 0 (Nat.zero_le _) rfl (Nat.lt_succ_self _) ls (lv_sub hl [1, 2, 3, 0] rfl)
set_option maxHeartbeats 4000000 in
set_option maxRecDepth 100000 in
theorem c_Mo_result (l : Launch) (D : va_G) (cI cL cZ cW cR : ClassId) (sz : Nat) (o : Nat) (ϕ : Nat → Value) (a_value a_hole a_list : Nat) (vl : Nat → Int32) (hl_ : Nat → Bool) (li : Nat → Nat) (w q : Nat) (b0 : Bool) (x : Int32) (hw : w < 3) (hq : q < 60) (hli : li q < 60) : Met l y_Mo_result ws_Mo_result rm0_0 (zPw D vwCl (zT cI cL cZ cW cR) [(o, .inr (9, [(ϕ 0), (ϕ 1), (ϕ 2), (ϕ 3), (ϕ 4), (ϕ 5), (ϕ 6), (ϕ 7), (ϕ 8), (ϕ 9), (ϕ 10), (ϕ 11), (ϕ 12), (ϕ 13), (ϕ 14), (ϕ 15), (ϕ 16), (ϕ 17), (ϕ 18), (ϕ 19), (ϕ 20), (ϕ 21), (ϕ 22), (ϕ 23), (ϕ 24), .ref a_value, .ref a_hole, (ϕ 27), (ϕ 28), .ref a_list, (ϕ 30), (ϕ 31), (ϕ 32), (ϕ 33), (ϕ 34), (ϕ 35), (ϕ 36), (ϕ 37), (ϕ 38), (ϕ 39), (ϕ 40), (ϕ 41), (ϕ 42), (ϕ 43)])), (a_value, .inl (cI, 540, .inl vl)), (a_hole, .inl (cZ, 540, .inl (zZ hl_))), (a_list, .inl (cI, 60, .inl (zN li)))] sz [.ref o, .int (nI w), .int (nI q), .int (zb b0), .int x]) (zQv D vwCl (zT cI cL cZ cW cR) [(o, .inr (9, [(ϕ 0), (ϕ 1), (ϕ 2), (ϕ 3), (ϕ 4), (ϕ 5), (ϕ 6), (ϕ 7), (ϕ 8), (ϕ 9), (ϕ 10), (ϕ 11), (ϕ 12), (ϕ 13), (ϕ 14), (ϕ 15), (ϕ 16), (ϕ 17), (ϕ 18), (ϕ 19), (ϕ 20), (ϕ 21), (ϕ 22), (ϕ 23), (ϕ 24), .ref a_value, .ref a_hole, (ϕ 27), (ϕ 28), .ref a_list, (ϕ 30), (ϕ 31), (ϕ 32), (ϕ 33), (ϕ 34), (ϕ 35), (ϕ 36), (ϕ 37), (ϕ 38), (ϕ 39), (ϕ 40), (ϕ 41), (ϕ 42), (ϕ 43)])), (a_value, .inl (cI, 540, .inl vl)), (a_hole, .inl (cZ, 540, .inl (zZ hl_))), (a_list, .inl (cI, 60, .inl (zN li)))] sz (fun _ : Unit => True) (fun _ => [(o, .inr (9, [(ϕ 0), (ϕ 1), (ϕ 2), (ϕ 3), (ϕ 4), (ϕ 5), (ϕ 6), (ϕ 7), (ϕ 8), (ϕ 9), (ϕ 10), (ϕ 11), (ϕ 12), (ϕ 13), (ϕ 14), (ϕ 15), (ϕ 16), (ϕ 17), (ϕ 18), (ϕ 19), (ϕ 20), (ϕ 21), (ϕ 22), (ϕ 23), (ϕ 24), .ref a_value, .ref a_hole, (ϕ 27), (ϕ 28), .ref a_list, (ϕ 30), (ϕ 31), (ϕ 32), (ϕ 33), (ϕ 34), (ϕ 35), (ϕ 36), (ϕ 37), (ϕ 38), (ϕ 39), (ϕ 40), (ϕ 41), (ϕ 42), (ϕ 43)])), (a_value, .inl (cI, 540, .inl (upd vl (9 * li q + 6 + w) (if b0 = true then x else nI 0)))), (a_hole, .inl (cZ, 540, .inl (zZ (va_up hl_ (9 * li q + 6 + w) (!b0))))), (a_list, .inl (cI, 60, .inl (zN li)))])) 0 0 (va_A [(o, .inr (9, [(ϕ 0), (ϕ 1), (ϕ 2), (ϕ 3), (ϕ 4), (ϕ 5), (ϕ 6), (ϕ 7), (ϕ 8), (ϕ 9), (ϕ 10), (ϕ 11), (ϕ 12), (ϕ 13), (ϕ 14), (ϕ 15), (ϕ 16), (ϕ 17), (ϕ 18), (ϕ 19), (ϕ 20), (ϕ 21), (ϕ 22), (ϕ 23), (ϕ 24), .ref a_value, .ref a_hole, (ϕ 27), (ϕ 28), .ref a_list, (ϕ 30), (ϕ 31), (ϕ 32), (ϕ 33), (ϕ 34), (ϕ 35), (ϕ 36), (ϕ 37), (ϕ 38), (ϕ 39), (ϕ 40), (ϕ 41), (ϕ 42), (ϕ 43)])), (a_value, .inl (cI, 540, .inl vl)), (a_hole, .inl (cZ, 540, .inl (zZ hl_))), (a_list, .inl (cI, 60, .inl (zN li)))] sz) := by
  refine zk_enterW (cc := b_Mo_result) (maxL := 6) (ret := none) (by decide) rfl (Nat.le_of_ble_eq_true rfl) ?_
  intro p e s m args below meth c ls Q hx hb hml hr hlk hown hts hP hK hN hl hin hsz A hAe hA hD hS hQ
  subst hsz
  have hl : lv_has ls 6 [(0, .ref o), (1, .int (nI w)), (2, .int (nI q)), (3, .int (zb b0)), (4, .int x)] := hl
  refine lv_bipush (v := nI 9) hx hb d_Mo_result_0 (by decide) ?_
  refine lv_aload_n hx hb d_Mo_result_2 rfl (lv_at hl 0 rfl) ?_
  refine va_get (C := R_Mo) (T := F_Mo) (N := 44) hx hb hts (fun w h => List.mem_cons_of_mem _ (hin_Mo w h)) hown hK hP 0 rfl rfl 29 (by decide) (hts _ (List.mem_cons_of_mem _ fl_Mo_65)) (fun _ h => h) rfl d_Mo_result_3 ?_
  refine lv_iload_n hx hb d_Mo_result_6 rfl (lv_at hl 2 rfl) ?_
  refine zk_nald hx hb hK hP 3 0 rfl rfl (by omega) (by omega) d_Mo_result_7 ?_
  refine lv_imul hx hb d_Mo_result_8 ?_
  refine zk_topi (show ((nI 9) * (nI (li q))) = nI (9 * (li q)) from pk_mul 9 (li q)) ?_
  refine lv_bipush (v := nI 6) hx hb d_Mo_result_9 (by decide) ?_
  refine lv_iadd hx hb d_Mo_result_11 ?_
  refine zk_topi (show ((nI (9 * (li q))) + (nI 6)) = nI (9 * (li q) + 6) from nI_add (9 * (li q)) 6) ?_
  refine lv_iload_n hx hb d_Mo_result_12 rfl (lv_at hl 1 rfl) ?_
  refine lv_iadd hx hb d_Mo_result_13 ?_
  refine zk_topi (show ((nI (9 * (li q) + 6)) + (nI w)) = nI (9 * (li q) + 6 + w) from nI_add (9 * (li q) + 6) w) ?_
  refine lv_istore (lv' := [(5, .int (nI (9 * (li q) + 6 + w))), (0, .ref o), (1, .int (nI w)), (2, .int (nI q)), (3, .int (zb b0)), (4, .int x)]) hx hb d_Mo_result_14 hl (by decide) rfl (fun ls hl => ?_)
  refine lv_aload_n hx hb d_Mo_result_16 rfl (lv_at hl 1 rfl) ?_
  refine va_get (C := R_Mo) (T := F_Mo) (N := 44) hx hb hts (fun w h => List.mem_cons_of_mem _ (hin_Mo w h)) hown hK hP 0 rfl rfl 26 (by decide) (hts _ (List.mem_cons_of_mem _ fl_Mo_56)) (fun _ h => h) rfl d_Mo_result_17 ?_
  refine lv_iload hx hb d_Mo_result_20 (lv_at hl 0 rfl) ?_
  refine lv_iload_n hx hb d_Mo_result_22 rfl (lv_at hl 4 rfl) ?_
  refine zk_ifb_ne (tgt := 30) hx hb d_Mo_result_23 rfl (fun h23 => ?_) (fun h23 => ?_)
  · skip
    refine lv_iconst (v := zb false) hx hb d_Mo_result_30 (by decide) ?_
    refine zk_topi (show (zb false) = zb (!b0) from by rw [h23]; rfl) ?_
    refine zk_bast hx hb hK hP hD hS 2 2 rfl rfl (by omega) (by omega) d_Mo_result_31 (fun H locs hP hD hS => ?_)
    have hP : va_P D vwCl [(o, .inr (9, [(ϕ 0), (ϕ 1), (ϕ 2), (ϕ 3), (ϕ 4), (ϕ 5), (ϕ 6), (ϕ 7), (ϕ 8), (ϕ 9), (ϕ 10), (ϕ 11), (ϕ 12), (ϕ 13), (ϕ 14), (ϕ 15), (ϕ 16), (ϕ 17), (ϕ 18), (ϕ 19), (ϕ 20), (ϕ 21), (ϕ 22), (ϕ 23), (ϕ 24), .ref a_value, .ref a_hole, (ϕ 27), (ϕ 28), .ref a_list, (ϕ 30), (ϕ 31), (ϕ 32), (ϕ 33), (ϕ 34), (ϕ 35), (ϕ 36), (ϕ 37), (ϕ 38), (ϕ 39), (ϕ 40), (ϕ 41), (ϕ 42), (ϕ 43)])), (a_value, .inl (cI, 540, .inl vl)), (a_hole, .inl (cZ, 540, .inl (zZ (va_up hl_ (9 * (li q) + 6 + w) (!b0))))), (a_list, .inl (cI, 60, .inl (zN li)))] H := hP
    have hD : va_D A [(o, .inr (9, [(ϕ 0), (ϕ 1), (ϕ 2), (ϕ 3), (ϕ 4), (ϕ 5), (ϕ 6), (ϕ 7), (ϕ 8), (ϕ 9), (ϕ 10), (ϕ 11), (ϕ 12), (ϕ 13), (ϕ 14), (ϕ 15), (ϕ 16), (ϕ 17), (ϕ 18), (ϕ 19), (ϕ 20), (ϕ 21), (ϕ 22), (ϕ 23), (ϕ 24), .ref a_value, .ref a_hole, (ϕ 27), (ϕ 28), .ref a_list, (ϕ 30), (ϕ 31), (ϕ 32), (ϕ 33), (ϕ 34), (ϕ 35), (ϕ 36), (ϕ 37), (ϕ 38), (ϕ 39), (ϕ 40), (ϕ 41), (ϕ 42), (ϕ 43)])), (a_value, .inl (cI, 540, .inl vl)), (a_hole, .inl (cZ, 540, .inl (zZ (va_up hl_ (9 * (li q) + 6 + w) (!b0))))), (a_list, .inl (cI, 60, .inl (zN li)))] := hD
    refine lv_aload_n hx hb d_Mo_result_32 rfl (lv_at hl 1 rfl) ?_
    refine va_get (C := R_Mo) (T := F_Mo) (N := 44) hx hb hts (fun w h => List.mem_cons_of_mem _ (hin_Mo w h)) hown hK hP 0 rfl rfl 25 (by decide) (hts _ (List.mem_cons_of_mem _ fl_Mo_53)) (fun _ h => h) rfl d_Mo_result_33 ?_
    refine lv_iload hx hb d_Mo_result_36 (lv_at hl 0 rfl) ?_
    refine lv_iload_n hx hb d_Mo_result_38 rfl (lv_at hl 4 rfl) ?_
    refine zk_ifb_eq (tgt := 47) hx hb d_Mo_result_39 rfl (fun h39 => ?_) (fun h39 => ?_)
    · skip
      refine lv_iconst (v := nI 0) hx hb d_Mo_result_47 (by decide) ?_
      refine zk_topi (show (nI 0) = if b0 = true then x else nI 0 from (if_neg (by rw [h39]; exact Bool.false_ne_true)).symm) ?_
      refine zk_iast hx hb hK hP hD hS 1 0 rfl rfl (by omega) (by omega) d_Mo_result_48 (fun H locs hP hD hS => ?_)
      have hP : va_P D vwCl [(o, .inr (9, [(ϕ 0), (ϕ 1), (ϕ 2), (ϕ 3), (ϕ 4), (ϕ 5), (ϕ 6), (ϕ 7), (ϕ 8), (ϕ 9), (ϕ 10), (ϕ 11), (ϕ 12), (ϕ 13), (ϕ 14), (ϕ 15), (ϕ 16), (ϕ 17), (ϕ 18), (ϕ 19), (ϕ 20), (ϕ 21), (ϕ 22), (ϕ 23), (ϕ 24), .ref a_value, .ref a_hole, (ϕ 27), (ϕ 28), .ref a_list, (ϕ 30), (ϕ 31), (ϕ 32), (ϕ 33), (ϕ 34), (ϕ 35), (ϕ 36), (ϕ 37), (ϕ 38), (ϕ 39), (ϕ 40), (ϕ 41), (ϕ 42), (ϕ 43)])), (a_value, .inl (cI, 540, .inl (upd vl (9 * (li q) + 6 + w) (if b0 = true then x else nI 0)))), (a_hole, .inl (cZ, 540, .inl (zZ (va_up hl_ (9 * (li q) + 6 + w) (!b0))))), (a_list, .inl (cI, 60, .inl (zN li)))] H := hP
      have hD : va_D A [(o, .inr (9, [(ϕ 0), (ϕ 1), (ϕ 2), (ϕ 3), (ϕ 4), (ϕ 5), (ϕ 6), (ϕ 7), (ϕ 8), (ϕ 9), (ϕ 10), (ϕ 11), (ϕ 12), (ϕ 13), (ϕ 14), (ϕ 15), (ϕ 16), (ϕ 17), (ϕ 18), (ϕ 19), (ϕ 20), (ϕ 21), (ϕ 22), (ϕ 23), (ϕ 24), .ref a_value, .ref a_hole, (ϕ 27), (ϕ 28), .ref a_list, (ϕ 30), (ϕ 31), (ϕ 32), (ϕ 33), (ϕ 34), (ϕ 35), (ϕ 36), (ϕ 37), (ϕ 38), (ϕ 39), (ϕ 40), (ϕ 41), (ϕ 42), (ϕ 43)])), (a_value, .inl (cI, 540, .inl (upd vl (9 * (li q) + 6 + w) (if b0 = true then x else nI 0)))), (a_hole, .inl (cZ, 540, .inl (zZ (va_up hl_ (9 * (li q) + 6 + w) (!b0))))), (a_list, .inl (cI, 60, .inl (zN li)))] := hD
      exact zk_vretW hx hb hr hlk hAe hQ hK (()) (trivial) hP hD hS d_Mo_result_49
    · skip
      refine lv_iload hx hb d_Mo_result_42 (lv_at hl 5 rfl) ?_
      refine zk_topi (show (x) = if b0 = true then x else nI 0 from (if_pos h39).symm) ?_
      refine lv_goto (tgt := 48) hx hb d_Mo_result_44 rfl ?_
      refine zk_iast hx hb hK hP hD hS 1 0 rfl rfl (by omega) (by omega) d_Mo_result_48 (fun H locs hP hD hS => ?_)
      have hP : va_P D vwCl [(o, .inr (9, [(ϕ 0), (ϕ 1), (ϕ 2), (ϕ 3), (ϕ 4), (ϕ 5), (ϕ 6), (ϕ 7), (ϕ 8), (ϕ 9), (ϕ 10), (ϕ 11), (ϕ 12), (ϕ 13), (ϕ 14), (ϕ 15), (ϕ 16), (ϕ 17), (ϕ 18), (ϕ 19), (ϕ 20), (ϕ 21), (ϕ 22), (ϕ 23), (ϕ 24), .ref a_value, .ref a_hole, (ϕ 27), (ϕ 28), .ref a_list, (ϕ 30), (ϕ 31), (ϕ 32), (ϕ 33), (ϕ 34), (ϕ 35), (ϕ 36), (ϕ 37), (ϕ 38), (ϕ 39), (ϕ 40), (ϕ 41), (ϕ 42), (ϕ 43)])), (a_value, .inl (cI, 540, .inl (upd vl (9 * (li q) + 6 + w) (if b0 = true then x else nI 0)))), (a_hole, .inl (cZ, 540, .inl (zZ (va_up hl_ (9 * (li q) + 6 + w) (!b0))))), (a_list, .inl (cI, 60, .inl (zN li)))] H := hP
      have hD : va_D A [(o, .inr (9, [(ϕ 0), (ϕ 1), (ϕ 2), (ϕ 3), (ϕ 4), (ϕ 5), (ϕ 6), (ϕ 7), (ϕ 8), (ϕ 9), (ϕ 10), (ϕ 11), (ϕ 12), (ϕ 13), (ϕ 14), (ϕ 15), (ϕ 16), (ϕ 17), (ϕ 18), (ϕ 19), (ϕ 20), (ϕ 21), (ϕ 22), (ϕ 23), (ϕ 24), .ref a_value, .ref a_hole, (ϕ 27), (ϕ 28), .ref a_list, (ϕ 30), (ϕ 31), (ϕ 32), (ϕ 33), (ϕ 34), (ϕ 35), (ϕ 36), (ϕ 37), (ϕ 38), (ϕ 39), (ϕ 40), (ϕ 41), (ϕ 42), (ϕ 43)])), (a_value, .inl (cI, 540, .inl (upd vl (9 * (li q) + 6 + w) (if b0 = true then x else nI 0)))), (a_hole, .inl (cZ, 540, .inl (zZ (va_up hl_ (9 * (li q) + 6 + w) (!b0))))), (a_list, .inl (cI, 60, .inl (zN li)))] := hD
      exact zk_vretW hx hb hr hlk hAe hQ hK (()) (trivial) hP hD hS d_Mo_result_49
  · skip
    refine lv_iconst (v := zb true) hx hb d_Mo_result_26 (by decide) ?_
    refine zk_topi (show (zb true) = zb (!b0) from by rw [h23]; rfl) ?_
    refine lv_goto (tgt := 31) hx hb d_Mo_result_27 rfl ?_
    refine zk_bast hx hb hK hP hD hS 2 2 rfl rfl (by omega) (by omega) d_Mo_result_31 (fun H locs hP hD hS => ?_)
    have hP : va_P D vwCl [(o, .inr (9, [(ϕ 0), (ϕ 1), (ϕ 2), (ϕ 3), (ϕ 4), (ϕ 5), (ϕ 6), (ϕ 7), (ϕ 8), (ϕ 9), (ϕ 10), (ϕ 11), (ϕ 12), (ϕ 13), (ϕ 14), (ϕ 15), (ϕ 16), (ϕ 17), (ϕ 18), (ϕ 19), (ϕ 20), (ϕ 21), (ϕ 22), (ϕ 23), (ϕ 24), .ref a_value, .ref a_hole, (ϕ 27), (ϕ 28), .ref a_list, (ϕ 30), (ϕ 31), (ϕ 32), (ϕ 33), (ϕ 34), (ϕ 35), (ϕ 36), (ϕ 37), (ϕ 38), (ϕ 39), (ϕ 40), (ϕ 41), (ϕ 42), (ϕ 43)])), (a_value, .inl (cI, 540, .inl vl)), (a_hole, .inl (cZ, 540, .inl (zZ (va_up hl_ (9 * (li q) + 6 + w) (!b0))))), (a_list, .inl (cI, 60, .inl (zN li)))] H := hP
    have hD : va_D A [(o, .inr (9, [(ϕ 0), (ϕ 1), (ϕ 2), (ϕ 3), (ϕ 4), (ϕ 5), (ϕ 6), (ϕ 7), (ϕ 8), (ϕ 9), (ϕ 10), (ϕ 11), (ϕ 12), (ϕ 13), (ϕ 14), (ϕ 15), (ϕ 16), (ϕ 17), (ϕ 18), (ϕ 19), (ϕ 20), (ϕ 21), (ϕ 22), (ϕ 23), (ϕ 24), .ref a_value, .ref a_hole, (ϕ 27), (ϕ 28), .ref a_list, (ϕ 30), (ϕ 31), (ϕ 32), (ϕ 33), (ϕ 34), (ϕ 35), (ϕ 36), (ϕ 37), (ϕ 38), (ϕ 39), (ϕ 40), (ϕ 41), (ϕ 42), (ϕ 43)])), (a_value, .inl (cI, 540, .inl vl)), (a_hole, .inl (cZ, 540, .inl (zZ (va_up hl_ (9 * (li q) + 6 + w) (!b0))))), (a_list, .inl (cI, 60, .inl (zN li)))] := hD
    refine lv_aload_n hx hb d_Mo_result_32 rfl (lv_at hl 1 rfl) ?_
    refine va_get (C := R_Mo) (T := F_Mo) (N := 44) hx hb hts (fun w h => List.mem_cons_of_mem _ (hin_Mo w h)) hown hK hP 0 rfl rfl 25 (by decide) (hts _ (List.mem_cons_of_mem _ fl_Mo_53)) (fun _ h => h) rfl d_Mo_result_33 ?_
    refine lv_iload hx hb d_Mo_result_36 (lv_at hl 0 rfl) ?_
    refine lv_iload_n hx hb d_Mo_result_38 rfl (lv_at hl 4 rfl) ?_
    refine zk_ifb_eq (tgt := 47) hx hb d_Mo_result_39 rfl (fun h39 => ?_) (fun h39 => ?_)
    · skip
      refine lv_iconst (v := nI 0) hx hb d_Mo_result_47 (by decide) ?_
      refine zk_topi (show (nI 0) = if b0 = true then x else nI 0 from (if_neg (by rw [h39]; exact Bool.false_ne_true)).symm) ?_
      refine zk_iast hx hb hK hP hD hS 1 0 rfl rfl (by omega) (by omega) d_Mo_result_48 (fun H locs hP hD hS => ?_)
      have hP : va_P D vwCl [(o, .inr (9, [(ϕ 0), (ϕ 1), (ϕ 2), (ϕ 3), (ϕ 4), (ϕ 5), (ϕ 6), (ϕ 7), (ϕ 8), (ϕ 9), (ϕ 10), (ϕ 11), (ϕ 12), (ϕ 13), (ϕ 14), (ϕ 15), (ϕ 16), (ϕ 17), (ϕ 18), (ϕ 19), (ϕ 20), (ϕ 21), (ϕ 22), (ϕ 23), (ϕ 24), .ref a_value, .ref a_hole, (ϕ 27), (ϕ 28), .ref a_list, (ϕ 30), (ϕ 31), (ϕ 32), (ϕ 33), (ϕ 34), (ϕ 35), (ϕ 36), (ϕ 37), (ϕ 38), (ϕ 39), (ϕ 40), (ϕ 41), (ϕ 42), (ϕ 43)])), (a_value, .inl (cI, 540, .inl (upd vl (9 * (li q) + 6 + w) (if b0 = true then x else nI 0)))), (a_hole, .inl (cZ, 540, .inl (zZ (va_up hl_ (9 * (li q) + 6 + w) (!b0))))), (a_list, .inl (cI, 60, .inl (zN li)))] H := hP
      have hD : va_D A [(o, .inr (9, [(ϕ 0), (ϕ 1), (ϕ 2), (ϕ 3), (ϕ 4), (ϕ 5), (ϕ 6), (ϕ 7), (ϕ 8), (ϕ 9), (ϕ 10), (ϕ 11), (ϕ 12), (ϕ 13), (ϕ 14), (ϕ 15), (ϕ 16), (ϕ 17), (ϕ 18), (ϕ 19), (ϕ 20), (ϕ 21), (ϕ 22), (ϕ 23), (ϕ 24), .ref a_value, .ref a_hole, (ϕ 27), (ϕ 28), .ref a_list, (ϕ 30), (ϕ 31), (ϕ 32), (ϕ 33), (ϕ 34), (ϕ 35), (ϕ 36), (ϕ 37), (ϕ 38), (ϕ 39), (ϕ 40), (ϕ 41), (ϕ 42), (ϕ 43)])), (a_value, .inl (cI, 540, .inl (upd vl (9 * (li q) + 6 + w) (if b0 = true then x else nI 0)))), (a_hole, .inl (cZ, 540, .inl (zZ (va_up hl_ (9 * (li q) + 6 + w) (!b0))))), (a_list, .inl (cI, 60, .inl (zN li)))] := hD
      exact zk_vretW hx hb hr hlk hAe hQ hK (()) (trivial) hP hD hS d_Mo_result_49
    · skip
      refine lv_iload hx hb d_Mo_result_42 (lv_at hl 5 rfl) ?_
      refine zk_topi (show (x) = if b0 = true then x else nI 0 from (if_pos h39).symm) ?_
      refine lv_goto (tgt := 48) hx hb d_Mo_result_44 rfl ?_
      refine zk_iast hx hb hK hP hD hS 1 0 rfl rfl (by omega) (by omega) d_Mo_result_48 (fun H locs hP hD hS => ?_)
      have hP : va_P D vwCl [(o, .inr (9, [(ϕ 0), (ϕ 1), (ϕ 2), (ϕ 3), (ϕ 4), (ϕ 5), (ϕ 6), (ϕ 7), (ϕ 8), (ϕ 9), (ϕ 10), (ϕ 11), (ϕ 12), (ϕ 13), (ϕ 14), (ϕ 15), (ϕ 16), (ϕ 17), (ϕ 18), (ϕ 19), (ϕ 20), (ϕ 21), (ϕ 22), (ϕ 23), (ϕ 24), .ref a_value, .ref a_hole, (ϕ 27), (ϕ 28), .ref a_list, (ϕ 30), (ϕ 31), (ϕ 32), (ϕ 33), (ϕ 34), (ϕ 35), (ϕ 36), (ϕ 37), (ϕ 38), (ϕ 39), (ϕ 40), (ϕ 41), (ϕ 42), (ϕ 43)])), (a_value, .inl (cI, 540, .inl (upd vl (9 * (li q) + 6 + w) (if b0 = true then x else nI 0)))), (a_hole, .inl (cZ, 540, .inl (zZ (va_up hl_ (9 * (li q) + 6 + w) (!b0))))), (a_list, .inl (cI, 60, .inl (zN li)))] H := hP
      have hD : va_D A [(o, .inr (9, [(ϕ 0), (ϕ 1), (ϕ 2), (ϕ 3), (ϕ 4), (ϕ 5), (ϕ 6), (ϕ 7), (ϕ 8), (ϕ 9), (ϕ 10), (ϕ 11), (ϕ 12), (ϕ 13), (ϕ 14), (ϕ 15), (ϕ 16), (ϕ 17), (ϕ 18), (ϕ 19), (ϕ 20), (ϕ 21), (ϕ 22), (ϕ 23), (ϕ 24), .ref a_value, .ref a_hole, (ϕ 27), (ϕ 28), .ref a_list, (ϕ 30), (ϕ 31), (ϕ 32), (ϕ 33), (ϕ 34), (ϕ 35), (ϕ 36), (ϕ 37), (ϕ 38), (ϕ 39), (ϕ 40), (ϕ 41), (ϕ 42), (ϕ 43)])), (a_value, .inl (cI, 540, .inl (upd vl (9 * (li q) + 6 + w) (if b0 = true then x else nI 0)))), (a_hole, .inl (cZ, 540, .inl (zZ (va_up hl_ (9 * (li q) + 6 + w) (!b0))))), (a_list, .inl (cI, 60, .inl (zN li)))] := hD
      exact zk_vretW hx hb hr hlk hAe hQ hK (()) (trivial) hP hD hS d_Mo_result_49
set_option maxHeartbeats 4000000 in
set_option maxRecDepth 100000 in
theorem c_Mo_transfers (l : Launch) (D : va_G) (cI cL cZ cW cR : ClassId) (o : Nat) (ϕ : Nat → Value) (tr : Nat) : Met l y_Mo_transfers ws_Mo_transfers rm0_0 (zPr D vwCl (zT cI cL cZ cW cR) [(o, .inr (9, [(ϕ 0), (ϕ 1), (ϕ 2), (ϕ 3), (ϕ 4), (ϕ 5), (ϕ 6), (ϕ 7), (ϕ 8), (ϕ 9), (ϕ 10), (ϕ 11), (ϕ 12), (ϕ 13), (ϕ 14), (ϕ 15), (ϕ 16), (ϕ 17), (ϕ 18), (ϕ 19), (ϕ 20), (ϕ 21), (ϕ 22), (ϕ 23), (ϕ 24), (ϕ 25), (ϕ 26), (ϕ 27), (ϕ 28), (ϕ 29), (ϕ 30), (ϕ 31), (ϕ 32), .int (nI tr), (ϕ 34), (ϕ 35), (ϕ 36), (ϕ 37), (ϕ 38), (ϕ 39), (ϕ 40), (ϕ 41), (ϕ 42), (ϕ 43)]))] [.ref o]) (zSi (nI tr)) 0 0 (fun _ => False) := by
  refine zk_enterR (cc := b_Mo_transfers) (maxL := 1) (ret := some .int) (by decide) rfl (Nat.le_of_ble_eq_true rfl) ?_
  intro p e s m args below meth c ls Q hx hb hml hr hlk hown hts hP hK hN hl hQ
  have hl : lv_has ls 1 [(0, .ref o)] := hl
  refine lv_aload_n hx hb d_Mo_transfers_0 rfl (lv_at hl 0 rfl) ?_
  refine va_get (C := R_Mo) (T := F_Mo) (N := 44) hx hb hts (fun w h => List.mem_cons_of_mem _ (hin_Mo w h)) hown hK hP 0 rfl rfl 33 (by decide) (hts _ (List.mem_cons_of_mem _ fl_Mo_126)) (fun _ h => h) rfl d_Mo_transfers_1 ?_
  exact zk_iretR hx hb hr hlk hQ (rfl) d_Mo_transfers_4
set_option maxHeartbeats 4000000 in
set_option maxRecDepth 100000 in
theorem c_Mo_held (l : Launch) (D : va_G) (cI cL cZ cW cR : ClassId) (o : Nat) (ϕ : Nat → Value) (ms : Nat) : Met l y_Mo_held ws_Mo_held rm0_0 (zPr D vwCl (zT cI cL cZ cW cR) [(o, .inr (9, [(ϕ 0), (ϕ 1), (ϕ 2), (ϕ 3), (ϕ 4), (ϕ 5), (ϕ 6), (ϕ 7), (ϕ 8), (ϕ 9), (ϕ 10), (ϕ 11), (ϕ 12), (ϕ 13), (ϕ 14), (ϕ 15), (ϕ 16), (ϕ 17), (ϕ 18), (ϕ 19), (ϕ 20), (ϕ 21), (ϕ 22), (ϕ 23), (ϕ 24), (ϕ 25), (ϕ 26), (ϕ 27), (ϕ 28), (ϕ 29), (ϕ 30), (ϕ 31), (ϕ 32), (ϕ 33), .int (nI ms), (ϕ 35), (ϕ 36), (ϕ 37), (ϕ 38), (ϕ 39), (ϕ 40), (ϕ 41), (ϕ 42), (ϕ 43)]))] [.ref o]) (zSi (nI ms)) 0 0 (fun _ => False) := by
  refine zk_enterR (cc := b_Mo_held) (maxL := 1) (ret := some .int) (by decide) rfl (Nat.le_of_ble_eq_true rfl) ?_
  intro p e s m args below meth c ls Q hx hb hml hr hlk hown hts hP hK hN hl hQ
  have hl : lv_has ls 1 [(0, .ref o)] := hl
  refine lv_aload_n hx hb d_Mo_held_0 rfl (lv_at hl 0 rfl) ?_
  refine va_get (C := R_Mo) (T := F_Mo) (N := 44) hx hb hts (fun w h => List.mem_cons_of_mem _ (hin_Mo w h)) hown hK hP 0 rfl rfl 34 (by decide) (hts _ (List.mem_cons_of_mem _ fl_Mo_110)) (fun _ h => h) rfl d_Mo_held_1 ?_
  exact zk_iretR hx hb hr hlk hQ (rfl) d_Mo_held_4
set_option maxHeartbeats 4000000 in
set_option maxRecDepth 100000 in
theorem c_Mo_sorts (l : Launch) (D : va_G) (cI cL cZ cW cR : ClassId) (o : Nat) (ϕ : Nat → Value) (sm : Nat) : Met l y_Mo_sorts ws_Mo_sorts rm0_0 (zPr D vwCl (zT cI cL cZ cW cR) [(o, .inr (9, [(ϕ 0), (ϕ 1), (ϕ 2), (ϕ 3), (ϕ 4), (ϕ 5), (ϕ 6), (ϕ 7), (ϕ 8), (ϕ 9), (ϕ 10), (ϕ 11), (ϕ 12), (ϕ 13), (ϕ 14), (ϕ 15), (ϕ 16), (ϕ 17), (ϕ 18), (ϕ 19), (ϕ 20), (ϕ 21), (ϕ 22), (ϕ 23), (ϕ 24), (ϕ 25), (ϕ 26), (ϕ 27), (ϕ 28), (ϕ 29), (ϕ 30), (ϕ 31), (ϕ 32), (ϕ 33), (ϕ 34), .int (nI sm), (ϕ 36), (ϕ 37), (ϕ 38), (ϕ 39), (ϕ 40), (ϕ 41), (ϕ 42), (ϕ 43)]))] [.ref o]) (zSi (nI sm)) 0 0 (fun _ => False) := by
  refine zk_enterR (cc := b_Mo_sorts) (maxL := 1) (ret := some .int) (by decide) rfl (Nat.le_of_ble_eq_true rfl) ?_
  intro p e s m args below meth c ls Q hx hb hml hr hlk hown hts hP hK hN hl hQ
  have hl : lv_has ls 1 [(0, .ref o)] := hl
  refine lv_aload_n hx hb d_Mo_sorts_0 rfl (lv_at hl 0 rfl) ?_
  refine va_get (C := R_Mo) (T := F_Mo) (N := 44) hx hb hts (fun w h => List.mem_cons_of_mem _ (hin_Mo w h)) hown hK hP 0 rfl rfl 35 (by decide) (hts _ (List.mem_cons_of_mem _ fl_Mo_175)) (fun _ h => h) rfl d_Mo_sorts_1 ?_
  exact zk_iretR hx hb hr hlk hQ (rfl) d_Mo_sorts_4
set_option maxHeartbeats 4000000 in
set_option maxRecDepth 100000 in
theorem c_Mo_rows (l : Launch) (D : va_G) (cI cL cZ cW cR : ClassId) (o : Nat) (ϕ : Nat → Value) (a_size : Nat) (sz_ : Nat → Nat) (t : Nat) (ht : t < 2) : Met l y_Mo_rows ws_Mo_rows rm1_30 (zPr D vwCl (zT cI cL cZ cW cR) [(o, .inr (9, [(ϕ 0), .ref a_size, (ϕ 2), (ϕ 3), (ϕ 4), (ϕ 5), (ϕ 6), (ϕ 7), (ϕ 8), (ϕ 9), (ϕ 10), (ϕ 11), (ϕ 12), (ϕ 13), (ϕ 14), (ϕ 15), (ϕ 16), (ϕ 17), (ϕ 18), (ϕ 19), (ϕ 20), (ϕ 21), (ϕ 22), (ϕ 23), (ϕ 24), (ϕ 25), (ϕ 26), (ϕ 27), (ϕ 28), (ϕ 29), (ϕ 30), (ϕ 31), (ϕ 32), (ϕ 33), (ϕ 34), (ϕ 35), (ϕ 36), (ϕ 37), (ϕ 38), (ϕ 39), (ϕ 40), (ϕ 41), (ϕ 42), (ϕ 43)])), (a_size, .inl (cI, 2, .inl (zN sz_)))] [.ref o, .int (nI t)]) (zSi (nI (sz_ t))) 0 0 (fun _ => False) := by
  refine zk_enterR (cc := b_Mo_rows) (maxL := 2) (ret := some .int) (by decide) rfl (Nat.le_of_ble_eq_true rfl) ?_
  intro p e s m args below meth c ls Q hx hb hml hr hlk hown hts hP hK hN hl hQ
  have hl : lv_has ls 2 [(0, .ref o), (1, .int (nI t))] := hl
  refine lv_iload_n hx hb d_Mo_rows_0 rfl (lv_at hl 1 rfl) ?_
  refine lv_iconst (v := nI 0) hx hb d_Mo_rows_1 (by decide) ?_
  refine lv_iconst (v := nI 1) hx hb d_Mo_rows_2 (by decide) ?_
  have hPc := hP.sub (ws' := []) [] rfl
  refine zk_ri (va_runS (As := [.int (nI t), .int (nI 0), .int (nI 1)]) (rest := []) ⟨hx, hb, hml, hown, hts⟩ (c_Mo_outside l D cI cL cZ cW cR (nI t) (nI 0) (nI 1)) (cwS 3 hts (zk_gS (fun _ h => List.mem_cons_of_mem _ h) ml_Mo_81 sm_Mo_outside in_Mo co_Mo_outside) rfl rfl rfl ⟨rfl, hd_Mo_outside⟩ ⟨Nat.le_of_ble_eq_true rfl, Nat.le_of_ble_eq_true rfl⟩) (zk_sr hN hK hPc) rfl rfl hl.1 rfl (lv_room (Nat.le_of_ble_eq_true rfl)) d_Mo_rows_3 ⟨Nat.zero_le _, Nat.zero_le _⟩) ?_
  refine zk_ifb_eq (tgt := 13) hx hb d_Mo_rows_6 rfl (fun _ => ?_) (fun hq => absurd hq (fun q => absurd (of_decide_eq_true q) (fun z => z.elim (nI_nlt (by omega) (by omega)) (nI_nlt (by omega) (by omega)))))
  refine lv_aload_n hx hb d_Mo_rows_13 rfl (lv_at hl 0 rfl) ?_
  refine va_get (C := R_Mo) (T := F_Mo) (N := 44) hx hb hts (fun w h => List.mem_cons_of_mem _ (hin_Mo w h)) hown hK hP 0 rfl rfl 1 (by decide) (hts _ (List.mem_cons_of_mem _ fl_Mo_7)) (fun _ h => h) rfl d_Mo_rows_14 ?_
  refine lv_iload_n hx hb d_Mo_rows_17 rfl (lv_at hl 1 rfl) ?_
  refine zk_nald hx hb hK hP 1 0 rfl rfl (by omega) (by omega) d_Mo_rows_18 ?_
  exact zk_iretR hx hb hr hlk hQ (rfl) d_Mo_rows_19
set_option maxHeartbeats 4000000 in
set_option maxRecDepth 100000 in
theorem c_Mo_rows_b (l : Launch) (D : va_G) (cI cL cZ cW cR : ClassId) (o : Nat) (ϕ : Nat → Value) (x : Int32) (hbad : x < nI 0 ∨ nI 1 < x) : Met l y_Mo_rows ws_Mo_rows rm1_30 (zPr D vwCl (zT cI cL cZ cW cR) [(o, .inr (9, [(ϕ 0), (ϕ 1), (ϕ 2), (ϕ 3), (ϕ 4), (ϕ 5), (ϕ 6), (ϕ 7), (ϕ 8), (ϕ 9), (ϕ 10), (ϕ 11), (ϕ 12), (ϕ 13), (ϕ 14), (ϕ 15), (ϕ 16), (ϕ 17), (ϕ 18), (ϕ 19), (ϕ 20), (ϕ 21), (ϕ 22), (ϕ 23), (ϕ 24), (ϕ 25), (ϕ 26), (ϕ 27), (ϕ 28), (ϕ 29), (ϕ 30), (ϕ 31), (ϕ 32), (ϕ 33), (ϕ 34), (ϕ 35), (ϕ 36), (ϕ 37), (ϕ 38), (ϕ 39), (ϕ 40), (ϕ 41), (ϕ 42), (ϕ 43)]))] [.ref o, .int x]) (zSi (-1)) 0 0 (fun _ => False) := by
  refine zk_enterR (cc := b_Mo_rows) (maxL := 2) (ret := some .int) (by decide) rfl (Nat.le_of_ble_eq_true rfl) ?_
  intro p e s m args below meth c ls Q hx hb hml hr hlk hown hts hP hK hN hl hQ
  have hl : lv_has ls 2 [(0, .ref o), (1, .int x)] := hl
  refine lv_iload_n hx hb d_Mo_rows_0 rfl (lv_at hl 1 rfl) ?_
  refine lv_iconst (v := nI 0) hx hb d_Mo_rows_1 (by decide) ?_
  refine lv_iconst (v := nI 1) hx hb d_Mo_rows_2 (by decide) ?_
  have hPc := hP.sub (ws' := []) [] rfl
  refine zk_ri (va_runS (As := [.int x, .int (nI 0), .int (nI 1)]) (rest := []) ⟨hx, hb, hml, hown, hts⟩ (c_Mo_outside l D cI cL cZ cW cR x (nI 0) (nI 1)) (cwS 3 hts (zk_gS (fun _ h => List.mem_cons_of_mem _ h) ml_Mo_81 sm_Mo_outside in_Mo co_Mo_outside) rfl rfl rfl ⟨rfl, hd_Mo_outside⟩ ⟨Nat.le_of_ble_eq_true rfl, Nat.le_of_ble_eq_true rfl⟩) (zk_sr hN hK hPc) rfl rfl hl.1 rfl (lv_room (Nat.le_of_ble_eq_true rfl)) d_Mo_rows_3 ⟨Nat.zero_le _, Nat.zero_le _⟩) ?_
  refine zk_ifb_eq (tgt := 13) hx hb d_Mo_rows_6 rfl (fun hq => absurd hq (fun q => absurd (of_decide_eq_false q) (fun z => z hbad))) (fun _ => ?_)
  refine lv_iconst (v := (-1)) hx hb d_Mo_rows_9 (by decide) ?_
  refine lv_goto (tgt := 19) hx hb d_Mo_rows_10 rfl ?_
  exact zk_iretR hx hb hr hlk hQ (rfl) d_Mo_rows_19
set_option maxHeartbeats 4000000 in
set_option maxRecDepth 100000 in
theorem c_Mo_clear (l : Launch) (D : va_G) (cI cL cZ cW cR : ClassId) (sz : Nat) (o : Nat) (ϕ : Nat → Value) (a_size : Nat) (sz_ : Nat → Nat) (t : Nat) (ht : t < 2) : Met l y_Mo_clear ws_Mo_clear rm1_30 (zPw D vwCl (zT cI cL cZ cW cR) [(o, .inr (9, [(ϕ 0), .ref a_size, (ϕ 2), (ϕ 3), (ϕ 4), (ϕ 5), (ϕ 6), (ϕ 7), (ϕ 8), (ϕ 9), (ϕ 10), (ϕ 11), (ϕ 12), (ϕ 13), (ϕ 14), (ϕ 15), (ϕ 16), (ϕ 17), (ϕ 18), (ϕ 19), (ϕ 20), (ϕ 21), (ϕ 22), (ϕ 23), (ϕ 24), (ϕ 25), (ϕ 26), (ϕ 27), (ϕ 28), (ϕ 29), (ϕ 30), (ϕ 31), (ϕ 32), (ϕ 33), (ϕ 34), (ϕ 35), (ϕ 36), (ϕ 37), (ϕ 38), (ϕ 39), (ϕ 40), (ϕ 41), (ϕ 42), (ϕ 43)])), (a_size, .inl (cI, 2, .inl (zN sz_)))] sz [.ref o, .int (nI t)]) (zQi D vwCl (zT cI cL cZ cW cR) [(o, .inr (9, [(ϕ 0), .ref a_size, (ϕ 2), (ϕ 3), (ϕ 4), (ϕ 5), (ϕ 6), (ϕ 7), (ϕ 8), (ϕ 9), (ϕ 10), (ϕ 11), (ϕ 12), (ϕ 13), (ϕ 14), (ϕ 15), (ϕ 16), (ϕ 17), (ϕ 18), (ϕ 19), (ϕ 20), (ϕ 21), (ϕ 22), (ϕ 23), (ϕ 24), (ϕ 25), (ϕ 26), (ϕ 27), (ϕ 28), (ϕ 29), (ϕ 30), (ϕ 31), (ϕ 32), (ϕ 33), (ϕ 34), (ϕ 35), (ϕ 36), (ϕ 37), (ϕ 38), (ϕ 39), (ϕ 40), (ϕ 41), (ϕ 42), (ϕ 43)])), (a_size, .inl (cI, 2, .inl (zN sz_)))] sz (fun x (_ : Unit) => x = zb true) (fun _ => [(o, .inr (9, [(ϕ 0), .ref a_size, (ϕ 2), (ϕ 3), (ϕ 4), (ϕ 5), (ϕ 6), (ϕ 7), (ϕ 8), (ϕ 9), (ϕ 10), (ϕ 11), (ϕ 12), (ϕ 13), (ϕ 14), (ϕ 15), (ϕ 16), (ϕ 17), (ϕ 18), (ϕ 19), (ϕ 20), (ϕ 21), (ϕ 22), (ϕ 23), (ϕ 24), (ϕ 25), (ϕ 26), (ϕ 27), (ϕ 28), (ϕ 29), (ϕ 30), (ϕ 31), (ϕ 32), (ϕ 33), (ϕ 34), (ϕ 35), (ϕ 36), (ϕ 37), (ϕ 38), (ϕ 39), (ϕ 40), (ϕ 41), (ϕ 42), (ϕ 43)])), (a_size, .inl (cI, 2, .inl (zN (va_up sz_ t 0))))])) 0 0 (va_A [(o, .inr (9, [(ϕ 0), .ref a_size, (ϕ 2), (ϕ 3), (ϕ 4), (ϕ 5), (ϕ 6), (ϕ 7), (ϕ 8), (ϕ 9), (ϕ 10), (ϕ 11), (ϕ 12), (ϕ 13), (ϕ 14), (ϕ 15), (ϕ 16), (ϕ 17), (ϕ 18), (ϕ 19), (ϕ 20), (ϕ 21), (ϕ 22), (ϕ 23), (ϕ 24), (ϕ 25), (ϕ 26), (ϕ 27), (ϕ 28), (ϕ 29), (ϕ 30), (ϕ 31), (ϕ 32), (ϕ 33), (ϕ 34), (ϕ 35), (ϕ 36), (ϕ 37), (ϕ 38), (ϕ 39), (ϕ 40), (ϕ 41), (ϕ 42), (ϕ 43)])), (a_size, .inl (cI, 2, .inl (zN sz_)))] sz) := by
  refine zk_enterW (cc := b_Mo_clear) (maxL := 2) (ret := some .boolean) (by decide) rfl (Nat.le_of_ble_eq_true rfl) ?_
  intro p e s m args below meth c ls Q hx hb hml hr hlk hown hts hP hK hN hl hin hsz A hAe hA hD hS hQ
  subst hsz
  have hl : lv_has ls 2 [(0, .ref o), (1, .int (nI t))] := hl
  refine lv_iload_n hx hb d_Mo_clear_0 rfl (lv_at hl 1 rfl) ?_
  refine lv_iconst (v := nI 0) hx hb d_Mo_clear_1 (by decide) ?_
  refine lv_iconst (v := nI 1) hx hb d_Mo_clear_2 (by decide) ?_
  have hPc := hP.sub (ws' := []) [] rfl
  refine zk_ri (va_runS (As := [.int (nI t), .int (nI 0), .int (nI 1)]) (rest := []) ⟨hx, hb, hml, hown, hts⟩ (c_Mo_outside l D cI cL cZ cW cR (nI t) (nI 0) (nI 1)) (cwS 3 hts (zk_gS (fun _ h => List.mem_cons_of_mem _ h) ml_Mo_81 sm_Mo_outside in_Mo co_Mo_outside) rfl rfl rfl ⟨rfl, hd_Mo_outside⟩ ⟨Nat.le_of_ble_eq_true rfl, Nat.le_of_ble_eq_true rfl⟩) (zk_sr hN hK hPc) rfl rfl hl.1 rfl (lv_room (Nat.le_of_ble_eq_true rfl)) d_Mo_clear_3 ⟨Nat.zero_le _, Nat.zero_le _⟩) ?_
  refine zk_ifb_eq (tgt := 11) hx hb d_Mo_clear_6 rfl (fun _ => ?_) (fun hq => absurd hq (fun q => absurd (of_decide_eq_true q) (fun z => z.elim (nI_nlt (by omega) (by omega)) (nI_nlt (by omega) (by omega)))))
  refine lv_aload_n hx hb d_Mo_clear_11 rfl (lv_at hl 0 rfl) ?_
  refine va_get (C := R_Mo) (T := F_Mo) (N := 44) hx hb hts (fun w h => List.mem_cons_of_mem _ (hin_Mo w h)) hown hK hP 0 rfl rfl 1 (by decide) (hts _ (List.mem_cons_of_mem _ fl_Mo_7)) (fun _ h => h) rfl d_Mo_clear_12 ?_
  refine lv_iload_n hx hb d_Mo_clear_15 rfl (lv_at hl 1 rfl) ?_
  refine lv_iconst (v := nI 0) hx hb d_Mo_clear_16 (by decide) ?_
  refine zk_nast hx hb hK hP hD hS 1 0 rfl rfl (by omega) (by omega) d_Mo_clear_17 (fun H locs hP hD hS => ?_)
  have hP : va_P D vwCl [(o, .inr (9, [(ϕ 0), .ref a_size, (ϕ 2), (ϕ 3), (ϕ 4), (ϕ 5), (ϕ 6), (ϕ 7), (ϕ 8), (ϕ 9), (ϕ 10), (ϕ 11), (ϕ 12), (ϕ 13), (ϕ 14), (ϕ 15), (ϕ 16), (ϕ 17), (ϕ 18), (ϕ 19), (ϕ 20), (ϕ 21), (ϕ 22), (ϕ 23), (ϕ 24), (ϕ 25), (ϕ 26), (ϕ 27), (ϕ 28), (ϕ 29), (ϕ 30), (ϕ 31), (ϕ 32), (ϕ 33), (ϕ 34), (ϕ 35), (ϕ 36), (ϕ 37), (ϕ 38), (ϕ 39), (ϕ 40), (ϕ 41), (ϕ 42), (ϕ 43)])), (a_size, .inl (cI, 2, .inl (zN (va_up sz_ t 0))))] H := hP
  have hD : va_D A [(o, .inr (9, [(ϕ 0), .ref a_size, (ϕ 2), (ϕ 3), (ϕ 4), (ϕ 5), (ϕ 6), (ϕ 7), (ϕ 8), (ϕ 9), (ϕ 10), (ϕ 11), (ϕ 12), (ϕ 13), (ϕ 14), (ϕ 15), (ϕ 16), (ϕ 17), (ϕ 18), (ϕ 19), (ϕ 20), (ϕ 21), (ϕ 22), (ϕ 23), (ϕ 24), (ϕ 25), (ϕ 26), (ϕ 27), (ϕ 28), (ϕ 29), (ϕ 30), (ϕ 31), (ϕ 32), (ϕ 33), (ϕ 34), (ϕ 35), (ϕ 36), (ϕ 37), (ϕ 38), (ϕ 39), (ϕ 40), (ϕ 41), (ϕ 42), (ϕ 43)])), (a_size, .inl (cI, 2, .inl (zN (va_up sz_ t 0))))] := hD
  refine lv_iconst (v := zb true) hx hb d_Mo_clear_18 (by decide) ?_
  exact zk_zretW hx hb hr hlk hAe hQ hK (()) (rfl) hP hD hS d_Mo_clear_19
set_option maxHeartbeats 4000000 in
set_option maxRecDepth 100000 in
theorem c_Mo_clear_b (l : Launch) (D : va_G) (cI cL cZ cW cR : ClassId) (o : Nat) (ϕ : Nat → Value) (x : Int32) (hbad : x < nI 0 ∨ nI 1 < x) : Met l y_Mo_clear ws_Mo_clear rm1_30 (zPr D vwCl (zT cI cL cZ cW cR) [(o, .inr (9, [(ϕ 0), (ϕ 1), (ϕ 2), (ϕ 3), (ϕ 4), (ϕ 5), (ϕ 6), (ϕ 7), (ϕ 8), (ϕ 9), (ϕ 10), (ϕ 11), (ϕ 12), (ϕ 13), (ϕ 14), (ϕ 15), (ϕ 16), (ϕ 17), (ϕ 18), (ϕ 19), (ϕ 20), (ϕ 21), (ϕ 22), (ϕ 23), (ϕ 24), (ϕ 25), (ϕ 26), (ϕ 27), (ϕ 28), (ϕ 29), (ϕ 30), (ϕ 31), (ϕ 32), (ϕ 33), (ϕ 34), (ϕ 35), (ϕ 36), (ϕ 37), (ϕ 38), (ϕ 39), (ϕ 40), (ϕ 41), (ϕ 42), (ϕ 43)]))] [.ref o, .int x]) (zSi (zb false)) 0 0 (fun _ => False) := by
  refine zk_enterR (cc := b_Mo_clear) (maxL := 2) (ret := some .boolean) (by decide) rfl (Nat.le_of_ble_eq_true rfl) ?_
  intro p e s m args below meth c ls Q hx hb hml hr hlk hown hts hP hK hN hl hQ
  have hl : lv_has ls 2 [(0, .ref o), (1, .int x)] := hl
  refine lv_iload_n hx hb d_Mo_clear_0 rfl (lv_at hl 1 rfl) ?_
  refine lv_iconst (v := nI 0) hx hb d_Mo_clear_1 (by decide) ?_
  refine lv_iconst (v := nI 1) hx hb d_Mo_clear_2 (by decide) ?_
  have hPc := hP.sub (ws' := []) [] rfl
  refine zk_ri (va_runS (As := [.int x, .int (nI 0), .int (nI 1)]) (rest := []) ⟨hx, hb, hml, hown, hts⟩ (c_Mo_outside l D cI cL cZ cW cR x (nI 0) (nI 1)) (cwS 3 hts (zk_gS (fun _ h => List.mem_cons_of_mem _ h) ml_Mo_81 sm_Mo_outside in_Mo co_Mo_outside) rfl rfl rfl ⟨rfl, hd_Mo_outside⟩ ⟨Nat.le_of_ble_eq_true rfl, Nat.le_of_ble_eq_true rfl⟩) (zk_sr hN hK hPc) rfl rfl hl.1 rfl (lv_room (Nat.le_of_ble_eq_true rfl)) d_Mo_clear_3 ⟨Nat.zero_le _, Nat.zero_le _⟩) ?_
  refine zk_ifb_eq (tgt := 11) hx hb d_Mo_clear_6 rfl (fun hq => absurd hq (fun q => absurd (of_decide_eq_false q) (fun z => z hbad))) (fun _ => ?_)
  refine lv_iconst (v := zb false) hx hb d_Mo_clear_9 (by decide) ?_
  exact zk_zretR hx hb hr hlk hQ (rfl) d_Mo_clear_10
set_option maxHeartbeats 4000000 in
set_option maxRecDepth 100000 in
theorem c_Mo_query (l : Launch) (D : va_G) (cI cL cZ cW cR : ClassId) (sz : Nat) (o : Nat) (ϕ : Nat → Value) (wc : Nat) (flt jns ors : Bool) : Met l y_Mo_query ws_Mo_query rm0_0 (zPw D vwCl (zT cI cL cZ cW cR) [(o, .inr (9, [(ϕ 0), (ϕ 1), (ϕ 2), (ϕ 3), .int (zb flt), (ϕ 5), .int (zb jns), (ϕ 7), (ϕ 8), .int (nI wc), (ϕ 10), (ϕ 11), (ϕ 12), (ϕ 13), (ϕ 14), (ϕ 15), (ϕ 16), (ϕ 17), (ϕ 18), .int (zb ors), (ϕ 20), (ϕ 21), (ϕ 22), (ϕ 23), (ϕ 24), (ϕ 25), (ϕ 26), (ϕ 27), (ϕ 28), (ϕ 29), (ϕ 30), (ϕ 31), (ϕ 32), (ϕ 33), (ϕ 34), (ϕ 35), (ϕ 36), (ϕ 37), (ϕ 38), (ϕ 39), (ϕ 40), (ϕ 41), (ϕ 42), (ϕ 43)]))] sz [.ref o]) (zQv D vwCl (zT cI cL cZ cW cR) [(o, .inr (9, [(ϕ 0), (ϕ 1), (ϕ 2), (ϕ 3), .int (zb flt), (ϕ 5), .int (zb jns), (ϕ 7), (ϕ 8), .int (nI wc), (ϕ 10), (ϕ 11), (ϕ 12), (ϕ 13), (ϕ 14), (ϕ 15), (ϕ 16), (ϕ 17), (ϕ 18), .int (zb ors), (ϕ 20), (ϕ 21), (ϕ 22), (ϕ 23), (ϕ 24), (ϕ 25), (ϕ 26), (ϕ 27), (ϕ 28), (ϕ 29), (ϕ 30), (ϕ 31), (ϕ 32), (ϕ 33), (ϕ 34), (ϕ 35), (ϕ 36), (ϕ 37), (ϕ 38), (ϕ 39), (ϕ 40), (ϕ 41), (ϕ 42), (ϕ 43)]))] sz (fun _ : Unit => True) (fun _ => [(o, .inr (9, [(ϕ 0), (ϕ 1), (ϕ 2), (ϕ 3), .int (zb false), (ϕ 5), .int (zb false), (ϕ 7), (ϕ 8), .int (nI 0), (ϕ 10), (ϕ 11), (ϕ 12), (ϕ 13), (ϕ 14), (ϕ 15), (ϕ 16), (ϕ 17), (ϕ 18), .int (zb false), (ϕ 20), (ϕ 21), (ϕ 22), (ϕ 23), (ϕ 24), (ϕ 25), (ϕ 26), (ϕ 27), (ϕ 28), (ϕ 29), (ϕ 30), (ϕ 31), (ϕ 32), (ϕ 33), (ϕ 34), (ϕ 35), (ϕ 36), (ϕ 37), (ϕ 38), (ϕ 39), (ϕ 40), (ϕ 41), (ϕ 42), (ϕ 43)]))])) 0 0 (va_A [(o, .inr (9, [(ϕ 0), (ϕ 1), (ϕ 2), (ϕ 3), .int (zb flt), (ϕ 5), .int (zb jns), (ϕ 7), (ϕ 8), .int (nI wc), (ϕ 10), (ϕ 11), (ϕ 12), (ϕ 13), (ϕ 14), (ϕ 15), (ϕ 16), (ϕ 17), (ϕ 18), .int (zb ors), (ϕ 20), (ϕ 21), (ϕ 22), (ϕ 23), (ϕ 24), (ϕ 25), (ϕ 26), (ϕ 27), (ϕ 28), (ϕ 29), (ϕ 30), (ϕ 31), (ϕ 32), (ϕ 33), (ϕ 34), (ϕ 35), (ϕ 36), (ϕ 37), (ϕ 38), (ϕ 39), (ϕ 40), (ϕ 41), (ϕ 42), (ϕ 43)]))] sz) := by
  refine zk_enterW (cc := b_Mo_query) (maxL := 1) (ret := none) (by decide) rfl (Nat.le_of_ble_eq_true rfl) ?_
  intro p e s m args below meth c ls Q hx hb hml hr hlk hown hts hP hK hN hl hin hsz A hAe hA hD hS hQ
  subst hsz
  have hl : lv_has ls 1 [(0, .ref o)] := hl
  refine lv_aload_n hx hb d_Mo_query_0 rfl (lv_at hl 0 rfl) ?_
  refine lv_iconst (v := zb false) hx hb d_Mo_query_1 (by decide) ?_
  refine va_put (D := D) (v := .int (zb false)) (ty := .boolean) (C := R_Mo) (T := F_Mo) (N := 44) hx hb hts (fun w h => List.mem_cons_of_mem _ (hin_Mo w h)) t_Mo t_Mo_ok n_Mo hown hK hP hD hS 0 rfl rfl 4 (by decide) (hts _ (List.mem_cons_of_mem _ fl_Mo_85)) (fun _ h => h) rfl (by decide +kernel) (zb_nar false) (zb_fit false) (Nat.le_of_ble_eq_true rfl) d_Mo_query_2 (fun H locs hP hD hS => ?_)
  have hP : va_P D vwCl [(o, .inr (9, [(ϕ 0), (ϕ 1), (ϕ 2), (ϕ 3), .int (zb false), (ϕ 5), .int (zb jns), (ϕ 7), (ϕ 8), .int (nI wc), (ϕ 10), (ϕ 11), (ϕ 12), (ϕ 13), (ϕ 14), (ϕ 15), (ϕ 16), (ϕ 17), (ϕ 18), .int (zb ors), (ϕ 20), (ϕ 21), (ϕ 22), (ϕ 23), (ϕ 24), (ϕ 25), (ϕ 26), (ϕ 27), (ϕ 28), (ϕ 29), (ϕ 30), (ϕ 31), (ϕ 32), (ϕ 33), (ϕ 34), (ϕ 35), (ϕ 36), (ϕ 37), (ϕ 38), (ϕ 39), (ϕ 40), (ϕ 41), (ϕ 42), (ϕ 43)]))] H := hP
  have hD : va_D A [(o, .inr (9, [(ϕ 0), (ϕ 1), (ϕ 2), (ϕ 3), .int (zb false), (ϕ 5), .int (zb jns), (ϕ 7), (ϕ 8), .int (nI wc), (ϕ 10), (ϕ 11), (ϕ 12), (ϕ 13), (ϕ 14), (ϕ 15), (ϕ 16), (ϕ 17), (ϕ 18), .int (zb ors), (ϕ 20), (ϕ 21), (ϕ 22), (ϕ 23), (ϕ 24), (ϕ 25), (ϕ 26), (ϕ 27), (ϕ 28), (ϕ 29), (ϕ 30), (ϕ 31), (ϕ 32), (ϕ 33), (ϕ 34), (ϕ 35), (ϕ 36), (ϕ 37), (ϕ 38), (ϕ 39), (ϕ 40), (ϕ 41), (ϕ 42), (ϕ 43)]))] := hD
  refine lv_aload_n hx hb d_Mo_query_5 rfl (lv_at hl 0 rfl) ?_
  refine lv_iconst (v := zb false) hx hb d_Mo_query_6 (by decide) ?_
  refine va_put (D := D) (v := .int (zb false)) (ty := .boolean) (C := R_Mo) (T := F_Mo) (N := 44) hx hb hts (fun w h => List.mem_cons_of_mem _ (hin_Mo w h)) t_Mo t_Mo_ok n_Mo hown hK hP hD hS 0 rfl rfl 6 (by decide) (hts _ (List.mem_cons_of_mem _ fl_Mo_89)) (fun _ h => h) rfl (by decide +kernel) (zb_nar false) (zb_fit false) (Nat.le_of_ble_eq_true rfl) d_Mo_query_7 (fun H locs hP hD hS => ?_)
  have hP : va_P D vwCl [(o, .inr (9, [(ϕ 0), (ϕ 1), (ϕ 2), (ϕ 3), .int (zb false), (ϕ 5), .int (zb false), (ϕ 7), (ϕ 8), .int (nI wc), (ϕ 10), (ϕ 11), (ϕ 12), (ϕ 13), (ϕ 14), (ϕ 15), (ϕ 16), (ϕ 17), (ϕ 18), .int (zb ors), (ϕ 20), (ϕ 21), (ϕ 22), (ϕ 23), (ϕ 24), (ϕ 25), (ϕ 26), (ϕ 27), (ϕ 28), (ϕ 29), (ϕ 30), (ϕ 31), (ϕ 32), (ϕ 33), (ϕ 34), (ϕ 35), (ϕ 36), (ϕ 37), (ϕ 38), (ϕ 39), (ϕ 40), (ϕ 41), (ϕ 42), (ϕ 43)]))] H := hP
  have hD : va_D A [(o, .inr (9, [(ϕ 0), (ϕ 1), (ϕ 2), (ϕ 3), .int (zb false), (ϕ 5), .int (zb false), (ϕ 7), (ϕ 8), .int (nI wc), (ϕ 10), (ϕ 11), (ϕ 12), (ϕ 13), (ϕ 14), (ϕ 15), (ϕ 16), (ϕ 17), (ϕ 18), .int (zb ors), (ϕ 20), (ϕ 21), (ϕ 22), (ϕ 23), (ϕ 24), (ϕ 25), (ϕ 26), (ϕ 27), (ϕ 28), (ϕ 29), (ϕ 30), (ϕ 31), (ϕ 32), (ϕ 33), (ϕ 34), (ϕ 35), (ϕ 36), (ϕ 37), (ϕ 38), (ϕ 39), (ϕ 40), (ϕ 41), (ϕ 42), (ϕ 43)]))] := hD
  refine lv_aload_n hx hb d_Mo_query_10 rfl (lv_at hl 0 rfl) ?_
  refine lv_iconst (v := nI 0) hx hb d_Mo_query_11 (by decide) ?_
  refine va_put (D := D) (v := .int (nI 0)) (ty := .int) (C := R_Mo) (T := F_Mo) (N := 44) hx hb hts (fun w h => List.mem_cons_of_mem _ (hin_Mo w h)) t_Mo t_Mo_ok n_Mo hown hK hP hD hS 0 rfl rfl 9 (by decide) (hts _ (List.mem_cons_of_mem _ fl_Mo_92)) (fun _ h => h) rfl (by decide +kernel) rfl rfl (Nat.le_of_ble_eq_true rfl) d_Mo_query_12 (fun H locs hP hD hS => ?_)
  have hP : va_P D vwCl [(o, .inr (9, [(ϕ 0), (ϕ 1), (ϕ 2), (ϕ 3), .int (zb false), (ϕ 5), .int (zb false), (ϕ 7), (ϕ 8), .int (nI 0), (ϕ 10), (ϕ 11), (ϕ 12), (ϕ 13), (ϕ 14), (ϕ 15), (ϕ 16), (ϕ 17), (ϕ 18), .int (zb ors), (ϕ 20), (ϕ 21), (ϕ 22), (ϕ 23), (ϕ 24), (ϕ 25), (ϕ 26), (ϕ 27), (ϕ 28), (ϕ 29), (ϕ 30), (ϕ 31), (ϕ 32), (ϕ 33), (ϕ 34), (ϕ 35), (ϕ 36), (ϕ 37), (ϕ 38), (ϕ 39), (ϕ 40), (ϕ 41), (ϕ 42), (ϕ 43)]))] H := hP
  have hD : va_D A [(o, .inr (9, [(ϕ 0), (ϕ 1), (ϕ 2), (ϕ 3), .int (zb false), (ϕ 5), .int (zb false), (ϕ 7), (ϕ 8), .int (nI 0), (ϕ 10), (ϕ 11), (ϕ 12), (ϕ 13), (ϕ 14), (ϕ 15), (ϕ 16), (ϕ 17), (ϕ 18), .int (zb ors), (ϕ 20), (ϕ 21), (ϕ 22), (ϕ 23), (ϕ 24), (ϕ 25), (ϕ 26), (ϕ 27), (ϕ 28), (ϕ 29), (ϕ 30), (ϕ 31), (ϕ 32), (ϕ 33), (ϕ 34), (ϕ 35), (ϕ 36), (ϕ 37), (ϕ 38), (ϕ 39), (ϕ 40), (ϕ 41), (ϕ 42), (ϕ 43)]))] := hD
  refine lv_aload_n hx hb d_Mo_query_15 rfl (lv_at hl 0 rfl) ?_
  refine lv_iconst (v := zb false) hx hb d_Mo_query_16 (by decide) ?_
  refine va_put (D := D) (v := .int (zb false)) (ty := .boolean) (C := R_Mo) (T := F_Mo) (N := 44) hx hb hts (fun w h => List.mem_cons_of_mem _ (hin_Mo w h)) t_Mo t_Mo_ok n_Mo hown hK hP hD hS 0 rfl rfl 19 (by decide) (hts _ (List.mem_cons_of_mem _ fl_Mo_95)) (fun _ h => h) rfl (by decide +kernel) (zb_nar false) (zb_fit false) (Nat.le_of_ble_eq_true rfl) d_Mo_query_17 (fun H locs hP hD hS => ?_)
  have hP : va_P D vwCl [(o, .inr (9, [(ϕ 0), (ϕ 1), (ϕ 2), (ϕ 3), .int (zb false), (ϕ 5), .int (zb false), (ϕ 7), (ϕ 8), .int (nI 0), (ϕ 10), (ϕ 11), (ϕ 12), (ϕ 13), (ϕ 14), (ϕ 15), (ϕ 16), (ϕ 17), (ϕ 18), .int (zb false), (ϕ 20), (ϕ 21), (ϕ 22), (ϕ 23), (ϕ 24), (ϕ 25), (ϕ 26), (ϕ 27), (ϕ 28), (ϕ 29), (ϕ 30), (ϕ 31), (ϕ 32), (ϕ 33), (ϕ 34), (ϕ 35), (ϕ 36), (ϕ 37), (ϕ 38), (ϕ 39), (ϕ 40), (ϕ 41), (ϕ 42), (ϕ 43)]))] H := hP
  have hD : va_D A [(o, .inr (9, [(ϕ 0), (ϕ 1), (ϕ 2), (ϕ 3), .int (zb false), (ϕ 5), .int (zb false), (ϕ 7), (ϕ 8), .int (nI 0), (ϕ 10), (ϕ 11), (ϕ 12), (ϕ 13), (ϕ 14), (ϕ 15), (ϕ 16), (ϕ 17), (ϕ 18), .int (zb false), (ϕ 20), (ϕ 21), (ϕ 22), (ϕ 23), (ϕ 24), (ϕ 25), (ϕ 26), (ϕ 27), (ϕ 28), (ϕ 29), (ϕ 30), (ϕ 31), (ϕ 32), (ϕ 33), (ϕ 34), (ϕ 35), (ϕ 36), (ϕ 37), (ϕ 38), (ϕ 39), (ϕ 40), (ϕ 41), (ϕ 42), (ϕ 43)]))] := hD
  exact zk_vretW hx hb hr hlk hAe hQ hK (()) (trivial) hP hD hS d_Mo_query_20
