abbrev zT (cI cL cZ cW cR : ClassId) : List (ClassId × FieldType) := [(cI, FieldType.int), (cL, FieldType.long), (cZ, FieldType.boolean), (cW, FieldType.object R_Window), (cR, FieldType.object R_Rows)]
theorem zk_t {p : Prop} [Decidable p] (h : p) : nI 1 = zb (decide p) := by rw [decide_eq_true h]; rfl
theorem zk_f {p : Prop} [Decidable p] (h : ¬ p) : nI 0 = zb (decide p) := by rw [decide_eq_false h]; rfl
theorem zk_cpy0 {f g : Nat → Int64} {s d : Nat} : va_cpy f g s d 0 = g := by
  funext j
  simp only [va_cpy]
  rw [if_neg (by omega)]
theorem zk_cpyS {f g : Nat → Int64} {s d i : Nat} : vp_updL (va_cpy f g s d i) (d + i) (f (s + i)) = va_cpy f g s d (i + 1) := by
  funext j
  simp only [vp_updL, va_cpy]
  by_cases h : j = d + i
  · rw [if_pos h, if_pos (by omega), h, Nat.add_sub_cancel_left]
  · rw [if_neg h]
    by_cases h2 : d ≤ j ∧ j < d + i
    · rw [if_pos h2, if_pos (by omega)]
    · rw [if_neg h2, if_neg (by omega)]
abbrev rm0_0 : Room := { frames := 0, cells := 0, slots := 0, locals := 0 }
abbrev rm1_30 : Room := { frames := 1, cells := 0, slots := 0, locals := 30 }
abbrev rm2_60 : Room := { frames := 2, cells := 0, slots := 0, locals := 60 }
theorem d_FQ_isWithin_0 : decode b_FQ_isWithin 0 = .ok (.iload_n 0, 1) := by decide +kernel
theorem d_FQ_isWithin_1 : decode b_FQ_isWithin 1 = .ok (.iload_n 1, 1) := by decide +kernel
theorem d_FQ_isWithin_2 : decode b_FQ_isWithin 2 = .ok (.if_icmp .lt 12, 3) := by decide +kernel
theorem d_FQ_isWithin_5 : decode b_FQ_isWithin 5 = .ok (.iload_n 0, 1) := by decide +kernel
theorem d_FQ_isWithin_6 : decode b_FQ_isWithin 6 = .ok (.iload_n 2, 1) := by decide +kernel
theorem d_FQ_isWithin_7 : decode b_FQ_isWithin 7 = .ok (.if_icmp .gt 7, 3) := by decide +kernel
theorem d_FQ_isWithin_10 : decode b_FQ_isWithin 10 = .ok (.iconst 1, 1) := by decide +kernel
theorem d_FQ_isWithin_11 : decode b_FQ_isWithin 11 = .ok (.goto 4, 3) := by decide +kernel
theorem d_FQ_isWithin_14 : decode b_FQ_isWithin 14 = .ok (.iconst 0, 1) := by decide +kernel
theorem d_FQ_isWithin_15 : decode b_FQ_isWithin 15 = .ok (.ireturn, 1) := by decide +kernel
theorem d_FQ_isTable_0 : decode b_FQ_isTable 0 = .ok (.iload_n 0, 1) := by decide +kernel
theorem d_FQ_isTable_1 : decode b_FQ_isTable 1 = .ok (.ifCond .eq 8, 3) := by decide +kernel
theorem d_FQ_isTable_4 : decode b_FQ_isTable 4 = .ok (.iload_n 0, 1) := by decide +kernel
theorem d_FQ_isTable_5 : decode b_FQ_isTable 5 = .ok (.iconst 1, 1) := by decide +kernel
theorem d_FQ_isTable_6 : decode b_FQ_isTable 6 = .ok (.if_icmp .ne 7, 3) := by decide +kernel
theorem d_FQ_isTable_9 : decode b_FQ_isTable 9 = .ok (.iconst 1, 1) := by decide +kernel
theorem d_FQ_isTable_10 : decode b_FQ_isTable 10 = .ok (.goto 4, 3) := by decide +kernel
theorem d_FQ_isTable_13 : decode b_FQ_isTable 13 = .ok (.iconst 0, 1) := by decide +kernel
theorem d_FQ_isTable_14 : decode b_FQ_isTable 14 = .ok (.ireturn, 1) := by decide +kernel
theorem d_FQ_isTableColumn_0 : decode b_FQ_isTableColumn 0 = .ok (.iload_n 0, 1) := by decide +kernel
theorem d_FQ_isTableColumn_1 : decode b_FQ_isTableColumn 1 = .ok (.iconst 0, 1) := by decide +kernel
theorem d_FQ_isTableColumn_2 : decode b_FQ_isTableColumn 2 = .ok (.iconst 2, 1) := by decide +kernel
theorem d_FQ_isTableColumn_3 : decode b_FQ_isTableColumn 3 = .ok (.invokestatic 9, 3) := by decide +kernel
theorem d_FQ_isTableColumn_6 : decode b_FQ_isTableColumn 6 = .ok (.ireturn, 1) := by decide +kernel
theorem d_FQ_isJoinedColumn_0 : decode b_FQ_isJoinedColumn 0 = .ok (.iload_n 0, 1) := by decide +kernel
theorem d_FQ_isJoinedColumn_1 : decode b_FQ_isJoinedColumn 1 = .ok (.iconst 0, 1) := by decide +kernel
theorem d_FQ_isJoinedColumn_2 : decode b_FQ_isJoinedColumn 2 = .ok (.iconst 5, 1) := by decide +kernel
theorem d_FQ_isJoinedColumn_3 : decode b_FQ_isJoinedColumn 3 = .ok (.invokestatic 9, 3) := by decide +kernel
theorem d_FQ_isJoinedColumn_6 : decode b_FQ_isJoinedColumn 6 = .ok (.ireturn, 1) := by decide +kernel
theorem d_FQ_isColumnOrNone_0 : decode b_FQ_isColumnOrNone 0 = .ok (.iload_n 0, 1) := by decide +kernel
theorem d_FQ_isColumnOrNone_1 : decode b_FQ_isColumnOrNone 1 = .ok (.iconst (-1), 1) := by decide +kernel
theorem d_FQ_isColumnOrNone_2 : decode b_FQ_isColumnOrNone 2 = .ok (.if_icmp .eq 10, 3) := by decide +kernel
theorem d_FQ_isColumnOrNone_5 : decode b_FQ_isColumnOrNone 5 = .ok (.iload_n 0, 1) := by decide +kernel
theorem d_FQ_isColumnOrNone_6 : decode b_FQ_isColumnOrNone 6 = .ok (.invokestatic 81, 3) := by decide +kernel
theorem d_FQ_isColumnOrNone_9 : decode b_FQ_isColumnOrNone 9 = .ok (.ifCond .eq 7, 3) := by decide +kernel
theorem d_FQ_isColumnOrNone_12 : decode b_FQ_isColumnOrNone 12 = .ok (.iconst 1, 1) := by decide +kernel
theorem d_FQ_isColumnOrNone_13 : decode b_FQ_isColumnOrNone 13 = .ok (.goto 4, 3) := by decide +kernel
theorem d_FQ_isColumnOrNone_16 : decode b_FQ_isColumnOrNone 16 = .ok (.iconst 0, 1) := by decide +kernel
theorem d_FQ_isColumnOrNone_17 : decode b_FQ_isColumnOrNone 17 = .ok (.ireturn, 1) := by decide +kernel
theorem d_FQ_blocksOf_0 : decode b_FQ_blocksOf 0 = .ok (.iload_n 0, 1) := by decide +kernel
theorem d_FQ_blocksOf_1 : decode b_FQ_blocksOf 1 = .ok (.iconst 4, 1) := by decide +kernel
theorem d_FQ_blocksOf_2 : decode b_FQ_blocksOf 2 = .ok (.invokestatic 170, 3) := by decide +kernel
theorem d_FQ_blocksOf_5 : decode b_FQ_blocksOf 5 = .ok (.ireturn, 1) := by decide +kernel
theorem d_FQ_quotientUp_0 : decode b_FQ_quotientUp 0 = .ok (.iload_n 0, 1) := by decide +kernel
theorem d_FQ_quotientUp_1 : decode b_FQ_quotientUp 1 = .ok (.iload_n 1, 1) := by decide +kernel
theorem d_FQ_quotientUp_2 : decode b_FQ_quotientUp 2 = .ok (.iadd, 1) := by decide +kernel
theorem d_FQ_quotientUp_3 : decode b_FQ_quotientUp 3 = .ok (.iconst 1, 1) := by decide +kernel
theorem d_FQ_quotientUp_4 : decode b_FQ_quotientUp 4 = .ok (.isub, 1) := by decide +kernel
theorem d_FQ_quotientUp_5 : decode b_FQ_quotientUp 5 = .ok (.iload_n 1, 1) := by decide +kernel
theorem d_FQ_quotientUp_6 : decode b_FQ_quotientUp 6 = .ok (.idiv, 1) := by decide +kernel
theorem d_FQ_quotientUp_7 : decode b_FQ_quotientUp 7 = .ok (.ireturn, 1) := by decide +kernel
theorem d_Rows_init_0 : decode b_Rows_init 0 = .ok (.aload_n 0, 1) := by decide +kernel
theorem d_Rows_init_1 : decode b_Rows_init 1 = .ok (.invokespecial 3, 3) := by decide +kernel
theorem d_Rows_init_4 : decode b_Rows_init 4 = .ok (.aload_n 0, 1) := by decide +kernel
theorem d_Rows_init_5 : decode b_Rows_init 5 = .ok (.iload_n 2, 1) := by decide +kernel
theorem d_Rows_init_6 : decode b_Rows_init 6 = .ok (.putfield 9, 3) := by decide +kernel
theorem d_Rows_init_9 : decode b_Rows_init 9 = .ok (.aload_n 0, 1) := by decide +kernel
theorem d_Rows_init_10 : decode b_Rows_init 10 = .ok (.iload_n 1, 1) := by decide +kernel
theorem d_Rows_init_11 : decode b_Rows_init 11 = .ok (.iload_n 2, 1) := by decide +kernel
theorem d_Rows_init_12 : decode b_Rows_init 12 = .ok (.imul, 1) := by decide +kernel
theorem d_Rows_init_13 : decode b_Rows_init 13 = .ok (.newarray .long, 2) := by decide +kernel
theorem d_Rows_init_15 : decode b_Rows_init 15 = .ok (.putfield 15, 3) := by decide +kernel
theorem d_Rows_init_18 : decode b_Rows_init 18 = .ok (.aload_n 0, 1) := by decide +kernel
theorem d_Rows_init_19 : decode b_Rows_init 19 = .ok (.iload_n 1, 1) := by decide +kernel
theorem d_Rows_init_20 : decode b_Rows_init 20 = .ok (.newarray .int, 2) := by decide +kernel
theorem d_Rows_init_22 : decode b_Rows_init 22 = .ok (.putfield 19, 3) := by decide +kernel
theorem d_Rows_init_25 : decode b_Rows_init 25 = .ok (.aload_n 0, 1) := by decide +kernel
theorem d_Rows_init_26 : decode b_Rows_init 26 = .ok (.iload_n 1, 1) := by decide +kernel
theorem d_Rows_init_27 : decode b_Rows_init 27 = .ok (.newarray .int, 2) := by decide +kernel
theorem d_Rows_init_29 : decode b_Rows_init 29 = .ok (.putfield 23, 3) := by decide +kernel
theorem d_Rows_init_32 : decode b_Rows_init 32 = .ok (.return_, 1) := by decide +kernel
theorem d_Rows_isFull_0 : decode b_Rows_isFull 0 = .ok (.aload_n 0, 1) := by decide +kernel
theorem d_Rows_isFull_1 : decode b_Rows_isFull 1 = .ok (.getfield 26, 3) := by decide +kernel
theorem d_Rows_isFull_4 : decode b_Rows_isFull 4 = .ok (.aload_n 0, 1) := by decide +kernel
theorem d_Rows_isFull_5 : decode b_Rows_isFull 5 = .ok (.getfield 19, 3) := by decide +kernel
theorem d_Rows_isFull_8 : decode b_Rows_isFull 8 = .ok (.arraylength, 1) := by decide +kernel
theorem d_Rows_isFull_9 : decode b_Rows_isFull 9 = .ok (.if_icmp .lt 7, 3) := by decide +kernel
theorem d_Rows_isFull_12 : decode b_Rows_isFull 12 = .ok (.iconst 1, 1) := by decide +kernel
theorem d_Rows_isFull_13 : decode b_Rows_isFull 13 = .ok (.goto 4, 3) := by decide +kernel
theorem d_Rows_isFull_16 : decode b_Rows_isFull 16 = .ok (.iconst 0, 1) := by decide +kernel
theorem d_Rows_isFull_17 : decode b_Rows_isFull 17 = .ok (.ireturn, 1) := by decide +kernel
theorem d_Rows_addRow_0 : decode b_Rows_addRow 0 = .ok (.aload_n 0, 1) := by decide +kernel
theorem d_Rows_addRow_1 : decode b_Rows_addRow 1 = .ok (.getfield 19, 3) := by decide +kernel
theorem d_Rows_addRow_4 : decode b_Rows_addRow 4 = .ok (.aload_n 0, 1) := by decide +kernel
theorem d_Rows_addRow_5 : decode b_Rows_addRow 5 = .ok (.getfield 26, 3) := by decide +kernel
theorem d_Rows_addRow_8 : decode b_Rows_addRow 8 = .ok (.aload_n 0, 1) := by decide +kernel
theorem d_Rows_addRow_9 : decode b_Rows_addRow 9 = .ok (.getfield 26, 3) := by decide +kernel
theorem d_Rows_addRow_12 : decode b_Rows_addRow 12 = .ok (.iastore, 1) := by decide +kernel
theorem d_Rows_addRow_13 : decode b_Rows_addRow 13 = .ok (.aload_n 0, 1) := by decide +kernel
theorem d_Rows_addRow_14 : decode b_Rows_addRow 14 = .ok (.dup, 1) := by decide +kernel
theorem d_Rows_addRow_15 : decode b_Rows_addRow 15 = .ok (.getfield 26, 3) := by decide +kernel
theorem d_Rows_addRow_18 : decode b_Rows_addRow 18 = .ok (.iconst 1, 1) := by decide +kernel
theorem d_Rows_addRow_19 : decode b_Rows_addRow 19 = .ok (.iadd, 1) := by decide +kernel
theorem d_Rows_addRow_20 : decode b_Rows_addRow 20 = .ok (.putfield 26, 3) := by decide +kernel
theorem d_Rows_addRow_23 : decode b_Rows_addRow 23 = .ok (.aload_n 0, 1) := by decide +kernel
theorem d_Rows_addRow_24 : decode b_Rows_addRow 24 = .ok (.getfield 26, 3) := by decide +kernel
theorem d_Rows_addRow_27 : decode b_Rows_addRow 27 = .ok (.iconst 1, 1) := by decide +kernel
theorem d_Rows_addRow_28 : decode b_Rows_addRow 28 = .ok (.isub, 1) := by decide +kernel
theorem d_Rows_addRow_29 : decode b_Rows_addRow 29 = .ok (.ireturn, 1) := by decide +kernel
theorem d_Rows_put_0 : decode b_Rows_put 0 = .ok (.aload_n 0, 1) := by decide +kernel
theorem d_Rows_put_1 : decode b_Rows_put 1 = .ok (.getfield 15, 3) := by decide +kernel
theorem d_Rows_put_4 : decode b_Rows_put 4 = .ok (.aload_n 0, 1) := by decide +kernel
theorem d_Rows_put_5 : decode b_Rows_put 5 = .ok (.getfield 19, 3) := by decide +kernel
theorem d_Rows_put_8 : decode b_Rows_put 8 = .ok (.iload_n 1, 1) := by decide +kernel
theorem d_Rows_put_9 : decode b_Rows_put 9 = .ok (.iaload, 1) := by decide +kernel
theorem d_Rows_put_10 : decode b_Rows_put 10 = .ok (.aload_n 0, 1) := by decide +kernel
theorem d_Rows_put_11 : decode b_Rows_put 11 = .ok (.getfield 9, 3) := by decide +kernel
theorem d_Rows_put_14 : decode b_Rows_put 14 = .ok (.imul, 1) := by decide +kernel
theorem d_Rows_put_15 : decode b_Rows_put 15 = .ok (.iload_n 2, 1) := by decide +kernel
theorem d_Rows_put_16 : decode b_Rows_put 16 = .ok (.iadd, 1) := by decide +kernel
theorem d_Rows_put_17 : decode b_Rows_put 17 = .ok (.lload_n 3, 1) := by decide +kernel
theorem d_Rows_put_18 : decode b_Rows_put 18 = .ok (.lastore, 1) := by decide +kernel
theorem d_Rows_put_19 : decode b_Rows_put 19 = .ok (.return_, 1) := by decide +kernel
theorem d_Rows_removeAll_0 : decode b_Rows_removeAll 0 = .ok (.aload_n 0, 1) := by decide +kernel
theorem d_Rows_removeAll_1 : decode b_Rows_removeAll 1 = .ok (.iconst 0, 1) := by decide +kernel
theorem d_Rows_removeAll_2 : decode b_Rows_removeAll 2 = .ok (.putfield 26, 3) := by decide +kernel
theorem d_Rows_removeAll_5 : decode b_Rows_removeAll 5 = .ok (.return_, 1) := by decide +kernel
theorem d_Rows_at_0 : decode b_Rows_at 0 = .ok (.aload_n 0, 1) := by decide +kernel
theorem d_Rows_at_1 : decode b_Rows_at 1 = .ok (.getfield 15, 3) := by decide +kernel
theorem d_Rows_at_4 : decode b_Rows_at 4 = .ok (.aload_n 0, 1) := by decide +kernel
theorem d_Rows_at_5 : decode b_Rows_at 5 = .ok (.getfield 19, 3) := by decide +kernel
theorem d_Rows_at_8 : decode b_Rows_at 8 = .ok (.iload_n 1, 1) := by decide +kernel
theorem d_Rows_at_9 : decode b_Rows_at 9 = .ok (.iaload, 1) := by decide +kernel
theorem d_Rows_at_10 : decode b_Rows_at 10 = .ok (.aload_n 0, 1) := by decide +kernel
theorem d_Rows_at_11 : decode b_Rows_at 11 = .ok (.getfield 9, 3) := by decide +kernel
theorem d_Rows_at_14 : decode b_Rows_at 14 = .ok (.imul, 1) := by decide +kernel
theorem d_Rows_at_15 : decode b_Rows_at 15 = .ok (.iload_n 2, 1) := by decide +kernel
theorem d_Rows_at_16 : decode b_Rows_at 16 = .ok (.iadd, 1) := by decide +kernel
theorem d_Rows_at_17 : decode b_Rows_at 17 = .ok (.laload, 1) := by decide +kernel
theorem d_Rows_at_18 : decode b_Rows_at 18 = .ok (.lreturn, 1) := by decide +kernel
theorem d_Rows_copyCells_0 : decode b_Rows_copyCells 0 = .ok (.iconst 0, 1) := by decide +kernel
theorem d_Rows_copyCells_1 : decode b_Rows_copyCells 1 = .ok (.istore 6, 2) := by decide +kernel
theorem d_Rows_copyCells_3 : decode b_Rows_copyCells 3 = .ok (.iload 6, 2) := by decide +kernel
theorem d_Rows_copyCells_5 : decode b_Rows_copyCells 5 = .ok (.iload 5, 2) := by decide +kernel
theorem d_Rows_copyCells_7 : decode b_Rows_copyCells 7 = .ok (.if_icmp .ge 26, 3) := by decide +kernel
theorem d_Rows_copyCells_10 : decode b_Rows_copyCells 10 = .ok (.aload_n 0, 1) := by decide +kernel
theorem d_Rows_copyCells_11 : decode b_Rows_copyCells 11 = .ok (.iload_n 1, 1) := by decide +kernel
theorem d_Rows_copyCells_12 : decode b_Rows_copyCells 12 = .ok (.iload_n 2, 1) := by decide +kernel
theorem d_Rows_copyCells_13 : decode b_Rows_copyCells 13 = .ok (.iload 6, 2) := by decide +kernel
theorem d_Rows_copyCells_15 : decode b_Rows_copyCells 15 = .ok (.iadd, 1) := by decide +kernel
theorem d_Rows_copyCells_16 : decode b_Rows_copyCells 16 = .ok (.aload_n 3, 1) := by decide +kernel
theorem d_Rows_copyCells_17 : decode b_Rows_copyCells 17 = .ok (.iload 4, 2) := by decide +kernel
theorem d_Rows_copyCells_19 : decode b_Rows_copyCells 19 = .ok (.iload 6, 2) := by decide +kernel
theorem d_Rows_copyCells_21 : decode b_Rows_copyCells 21 = .ok (.invokevirtual 29, 3) := by decide +kernel
theorem d_Rows_copyCells_24 : decode b_Rows_copyCells 24 = .ok (.invokevirtual 33, 3) := by decide +kernel
theorem d_Rows_copyCells_27 : decode b_Rows_copyCells 27 = .ok (.iinc 6 1, 3) := by decide +kernel
theorem d_Rows_copyCells_30 : decode b_Rows_copyCells 30 = .ok (.goto (-27), 3) := by decide +kernel
theorem d_Rows_copyCells_33 : decode b_Rows_copyCells 33 = .ok (.return_, 1) := by decide +kernel
theorem d_Rows_fillCells_0 : decode b_Rows_fillCells 0 = .ok (.iconst 0, 1) := by decide +kernel
theorem d_Rows_fillCells_1 : decode b_Rows_fillCells 1 = .ok (.istore 6, 2) := by decide +kernel
theorem d_Rows_fillCells_3 : decode b_Rows_fillCells 3 = .ok (.iload 6, 2) := by decide +kernel
theorem d_Rows_fillCells_5 : decode b_Rows_fillCells 5 = .ok (.iload_n 3, 1) := by decide +kernel
theorem d_Rows_fillCells_6 : decode b_Rows_fillCells 6 = .ok (.if_icmp .ge 20, 3) := by decide +kernel
theorem d_Rows_fillCells_9 : decode b_Rows_fillCells 9 = .ok (.aload_n 0, 1) := by decide +kernel
theorem d_Rows_fillCells_10 : decode b_Rows_fillCells 10 = .ok (.iload_n 1, 1) := by decide +kernel
theorem d_Rows_fillCells_11 : decode b_Rows_fillCells 11 = .ok (.iload_n 2, 1) := by decide +kernel
theorem d_Rows_fillCells_12 : decode b_Rows_fillCells 12 = .ok (.iload 6, 2) := by decide +kernel
theorem d_Rows_fillCells_14 : decode b_Rows_fillCells 14 = .ok (.iadd, 1) := by decide +kernel
theorem d_Rows_fillCells_15 : decode b_Rows_fillCells 15 = .ok (.lload 4, 2) := by decide +kernel
theorem d_Rows_fillCells_17 : decode b_Rows_fillCells 17 = .ok (.invokevirtual 33, 3) := by decide +kernel
theorem d_Rows_fillCells_20 : decode b_Rows_fillCells 20 = .ok (.iinc 6 1, 3) := by decide +kernel
theorem d_Rows_fillCells_23 : decode b_Rows_fillCells 23 = .ok (.goto (-20), 3) := by decide +kernel
theorem d_Rows_fillCells_26 : decode b_Rows_fillCells 26 = .ok (.return_, 1) := by decide +kernel
theorem d_Rows_sortBy_0 : decode b_Rows_sortBy 0 = .ok (.iconst 1, 1) := by decide +kernel
theorem d_Rows_sortBy_1 : decode b_Rows_sortBy 1 = .ok (.istore_n 2, 1) := by decide +kernel
theorem d_Rows_sortBy_2 : decode b_Rows_sortBy 2 = .ok (.iload_n 2, 1) := by decide +kernel
theorem d_Rows_sortBy_3 : decode b_Rows_sortBy 3 = .ok (.aload_n 0, 1) := by decide +kernel
theorem d_Rows_sortBy_4 : decode b_Rows_sortBy 4 = .ok (.getfield 26, 3) := by decide +kernel
theorem d_Rows_sortBy_7 : decode b_Rows_sortBy 7 = .ok (.if_icmp .ge 77, 3) := by decide +kernel
theorem d_Rows_sortBy_10 : decode b_Rows_sortBy 10 = .ok (.iconst 0, 1) := by decide +kernel
theorem d_Rows_sortBy_11 : decode b_Rows_sortBy 11 = .ok (.istore_n 3, 1) := by decide +kernel
theorem d_Rows_sortBy_12 : decode b_Rows_sortBy 12 = .ok (.iload_n 3, 1) := by decide +kernel
theorem d_Rows_sortBy_13 : decode b_Rows_sortBy 13 = .ok (.aload_n 0, 1) := by decide +kernel
theorem d_Rows_sortBy_14 : decode b_Rows_sortBy 14 = .ok (.getfield 26, 3) := by decide +kernel
theorem d_Rows_sortBy_17 : decode b_Rows_sortBy 17 = .ok (.if_icmp .ge 43, 3) := by decide +kernel
theorem d_Rows_sortBy_20 : decode b_Rows_sortBy 20 = .ok (.iload_n 3, 1) := by decide +kernel
theorem d_Rows_sortBy_21 : decode b_Rows_sortBy 21 = .ok (.iload_n 2, 1) := by decide +kernel
theorem d_Rows_sortBy_22 : decode b_Rows_sortBy 22 = .ok (.iadd, 1) := by decide +kernel
theorem d_Rows_sortBy_23 : decode b_Rows_sortBy 23 = .ok (.aload_n 0, 1) := by decide +kernel
theorem d_Rows_sortBy_24 : decode b_Rows_sortBy 24 = .ok (.getfield 26, 3) := by decide +kernel
theorem d_Rows_sortBy_27 : decode b_Rows_sortBy 27 = .ok (.invokestatic 37, 3) := by decide +kernel
theorem d_Rows_sortBy_30 : decode b_Rows_sortBy 30 = .ok (.istore 4, 2) := by decide +kernel
theorem d_Rows_sortBy_32 : decode b_Rows_sortBy 32 = .ok (.aload_n 0, 1) := by decide +kernel
theorem d_Rows_sortBy_33 : decode b_Rows_sortBy 33 = .ok (.iload_n 3, 1) := by decide +kernel
theorem d_Rows_sortBy_34 : decode b_Rows_sortBy 34 = .ok (.iload 4, 2) := by decide +kernel
theorem d_Rows_sortBy_36 : decode b_Rows_sortBy 36 = .ok (.iload 4, 2) := by decide +kernel
theorem d_Rows_sortBy_38 : decode b_Rows_sortBy 38 = .ok (.iload_n 2, 1) := by decide +kernel
theorem d_Rows_sortBy_39 : decode b_Rows_sortBy 39 = .ok (.iadd, 1) := by decide +kernel
theorem d_Rows_sortBy_40 : decode b_Rows_sortBy 40 = .ok (.aload_n 0, 1) := by decide +kernel
theorem d_Rows_sortBy_41 : decode b_Rows_sortBy 41 = .ok (.getfield 26, 3) := by decide +kernel
theorem d_Rows_sortBy_44 : decode b_Rows_sortBy 44 = .ok (.invokestatic 37, 3) := by decide +kernel
theorem d_Rows_sortBy_47 : decode b_Rows_sortBy 47 = .ok (.aload_n 1, 1) := by decide +kernel
theorem d_Rows_sortBy_48 : decode b_Rows_sortBy 48 = .ok (.invokevirtual 43, 3) := by decide +kernel
theorem d_Rows_sortBy_51 : decode b_Rows_sortBy 51 = .ok (.iload_n 3, 1) := by decide +kernel
theorem d_Rows_sortBy_52 : decode b_Rows_sortBy 52 = .ok (.iconst 2, 1) := by decide +kernel
theorem d_Rows_sortBy_53 : decode b_Rows_sortBy 53 = .ok (.iload_n 2, 1) := by decide +kernel
theorem d_Rows_sortBy_54 : decode b_Rows_sortBy 54 = .ok (.imul, 1) := by decide +kernel
theorem d_Rows_sortBy_55 : decode b_Rows_sortBy 55 = .ok (.iadd, 1) := by decide +kernel
theorem d_Rows_sortBy_56 : decode b_Rows_sortBy 56 = .ok (.istore_n 3, 1) := by decide +kernel
theorem d_Rows_sortBy_57 : decode b_Rows_sortBy 57 = .ok (.goto (-45), 3) := by decide +kernel
theorem d_Rows_sortBy_60 : decode b_Rows_sortBy 60 = .ok (.aload_n 0, 1) := by decide +kernel
theorem d_Rows_sortBy_61 : decode b_Rows_sortBy 61 = .ok (.getfield 23, 3) := by decide +kernel
theorem d_Rows_sortBy_64 : decode b_Rows_sortBy 64 = .ok (.iconst 0, 1) := by decide +kernel
theorem d_Rows_sortBy_65 : decode b_Rows_sortBy 65 = .ok (.aload_n 0, 1) := by decide +kernel
theorem d_Rows_sortBy_66 : decode b_Rows_sortBy 66 = .ok (.getfield 19, 3) := by decide +kernel
theorem d_Rows_sortBy_69 : decode b_Rows_sortBy 69 = .ok (.iconst 0, 1) := by decide +kernel
theorem d_Rows_sortBy_70 : decode b_Rows_sortBy 70 = .ok (.aload_n 0, 1) := by decide +kernel
theorem d_Rows_sortBy_71 : decode b_Rows_sortBy 71 = .ok (.getfield 26, 3) := by decide +kernel
theorem d_Rows_sortBy_74 : decode b_Rows_sortBy 74 = .ok (.invokestatic 47, 3) := by decide +kernel
theorem d_Rows_sortBy_77 : decode b_Rows_sortBy 77 = .ok (.iload_n 2, 1) := by decide +kernel
theorem d_Rows_sortBy_78 : decode b_Rows_sortBy 78 = .ok (.iconst 2, 1) := by decide +kernel
theorem d_Rows_sortBy_79 : decode b_Rows_sortBy 79 = .ok (.imul, 1) := by decide +kernel
theorem d_Rows_sortBy_80 : decode b_Rows_sortBy 80 = .ok (.istore_n 2, 1) := by decide +kernel
theorem d_Rows_sortBy_81 : decode b_Rows_sortBy 81 = .ok (.goto (-79), 3) := by decide +kernel
theorem d_Rows_sortBy_84 : decode b_Rows_sortBy 84 = .ok (.return_, 1) := by decide +kernel
theorem d_Rows_mergeRuns_0 : decode b_Rows_mergeRuns 0 = .ok (.iload_n 1, 1) := by decide +kernel
theorem d_Rows_mergeRuns_1 : decode b_Rows_mergeRuns 1 = .ok (.istore 5, 2) := by decide +kernel
theorem d_Rows_mergeRuns_3 : decode b_Rows_mergeRuns 3 = .ok (.iload_n 2, 1) := by decide +kernel
theorem d_Rows_mergeRuns_4 : decode b_Rows_mergeRuns 4 = .ok (.istore 6, 2) := by decide +kernel
theorem d_Rows_mergeRuns_6 : decode b_Rows_mergeRuns 6 = .ok (.iload_n 1, 1) := by decide +kernel
theorem d_Rows_mergeRuns_7 : decode b_Rows_mergeRuns 7 = .ok (.istore 7, 2) := by decide +kernel
theorem d_Rows_mergeRuns_9 : decode b_Rows_mergeRuns 9 = .ok (.iload 7, 2) := by decide +kernel
theorem d_Rows_mergeRuns_11 : decode b_Rows_mergeRuns 11 = .ok (.iload_n 3, 1) := by decide +kernel
theorem d_Rows_mergeRuns_12 : decode b_Rows_mergeRuns 12 = .ok (.if_icmp .ge 71, 3) := by decide +kernel
theorem d_Rows_mergeRuns_15 : decode b_Rows_mergeRuns 15 = .ok (.iload 5, 2) := by decide +kernel
theorem d_Rows_mergeRuns_17 : decode b_Rows_mergeRuns 17 = .ok (.iload_n 2, 1) := by decide +kernel
theorem d_Rows_mergeRuns_18 : decode b_Rows_mergeRuns 18 = .ok (.if_icmp .ge 42, 3) := by decide +kernel
theorem d_Rows_mergeRuns_21 : decode b_Rows_mergeRuns 21 = .ok (.iload 6, 2) := by decide +kernel
theorem d_Rows_mergeRuns_23 : decode b_Rows_mergeRuns 23 = .ok (.iload_n 3, 1) := by decide +kernel
theorem d_Rows_mergeRuns_24 : decode b_Rows_mergeRuns 24 = .ok (.if_icmp .ge 16, 3) := by decide +kernel
theorem d_Rows_mergeRuns_27 : decode b_Rows_mergeRuns 27 = .ok (.aload_n 0, 1) := by decide +kernel
theorem d_Rows_mergeRuns_28 : decode b_Rows_mergeRuns 28 = .ok (.iload 5, 2) := by decide +kernel
theorem d_Rows_mergeRuns_30 : decode b_Rows_mergeRuns 30 = .ok (.iload 6, 2) := by decide +kernel
theorem d_Rows_mergeRuns_32 : decode b_Rows_mergeRuns 32 = .ok (.aload 4, 2) := by decide +kernel
theorem d_Rows_mergeRuns_34 : decode b_Rows_mergeRuns 34 = .ok (.invokevirtual 53, 3) := by decide +kernel
theorem d_Rows_mergeRuns_37 : decode b_Rows_mergeRuns 37 = .ok (.ifCond .eq 23, 3) := by decide +kernel
theorem d_Rows_mergeRuns_40 : decode b_Rows_mergeRuns 40 = .ok (.aload_n 0, 1) := by decide +kernel
theorem d_Rows_mergeRuns_41 : decode b_Rows_mergeRuns 41 = .ok (.getfield 23, 3) := by decide +kernel
theorem d_Rows_mergeRuns_44 : decode b_Rows_mergeRuns 44 = .ok (.iload 7, 2) := by decide +kernel
theorem d_Rows_mergeRuns_46 : decode b_Rows_mergeRuns 46 = .ok (.aload_n 0, 1) := by decide +kernel
theorem d_Rows_mergeRuns_47 : decode b_Rows_mergeRuns 47 = .ok (.getfield 19, 3) := by decide +kernel
theorem d_Rows_mergeRuns_50 : decode b_Rows_mergeRuns 50 = .ok (.iload 5, 2) := by decide +kernel
theorem d_Rows_mergeRuns_52 : decode b_Rows_mergeRuns 52 = .ok (.iaload, 1) := by decide +kernel
theorem d_Rows_mergeRuns_53 : decode b_Rows_mergeRuns 53 = .ok (.iastore, 1) := by decide +kernel
theorem d_Rows_mergeRuns_54 : decode b_Rows_mergeRuns 54 = .ok (.iinc 5 1, 3) := by decide +kernel
theorem d_Rows_mergeRuns_57 : decode b_Rows_mergeRuns 57 = .ok (.goto 20, 3) := by decide +kernel
theorem d_Rows_mergeRuns_60 : decode b_Rows_mergeRuns 60 = .ok (.aload_n 0, 1) := by decide +kernel
theorem d_Rows_mergeRuns_61 : decode b_Rows_mergeRuns 61 = .ok (.getfield 23, 3) := by decide +kernel
theorem d_Rows_mergeRuns_64 : decode b_Rows_mergeRuns 64 = .ok (.iload 7, 2) := by decide +kernel
theorem d_Rows_mergeRuns_66 : decode b_Rows_mergeRuns 66 = .ok (.aload_n 0, 1) := by decide +kernel
theorem d_Rows_mergeRuns_67 : decode b_Rows_mergeRuns 67 = .ok (.getfield 19, 3) := by decide +kernel
theorem d_Rows_mergeRuns_70 : decode b_Rows_mergeRuns 70 = .ok (.iload 6, 2) := by decide +kernel
theorem d_Rows_mergeRuns_72 : decode b_Rows_mergeRuns 72 = .ok (.iaload, 1) := by decide +kernel
theorem d_Rows_mergeRuns_73 : decode b_Rows_mergeRuns 73 = .ok (.iastore, 1) := by decide +kernel
theorem d_Rows_mergeRuns_74 : decode b_Rows_mergeRuns 74 = .ok (.iinc 6 1, 3) := by decide +kernel
theorem d_Rows_mergeRuns_77 : decode b_Rows_mergeRuns 77 = .ok (.iinc 7 1, 3) := by decide +kernel
theorem d_Rows_mergeRuns_80 : decode b_Rows_mergeRuns 80 = .ok (.goto (-71), 3) := by decide +kernel
theorem d_Rows_mergeRuns_83 : decode b_Rows_mergeRuns 83 = .ok (.return_, 1) := by decide +kernel
theorem d_Rows_isBefore_0 : decode b_Rows_isBefore 0 = .ok (.iconst 0, 1) := by decide +kernel
theorem d_Rows_isBefore_1 : decode b_Rows_isBefore 1 = .ok (.istore 4, 2) := by decide +kernel
theorem d_Rows_isBefore_3 : decode b_Rows_isBefore 3 = .ok (.iload 4, 2) := by decide +kernel
theorem d_Rows_isBefore_5 : decode b_Rows_isBefore 5 = .ok (.aload_n 3, 1) := by decide +kernel
theorem d_Rows_isBefore_6 : decode b_Rows_isBefore 6 = .ok (.getfield 57, 3) := by decide +kernel
theorem d_Rows_isBefore_9 : decode b_Rows_isBefore 9 = .ok (.if_icmp .ge 85, 3) := by decide +kernel
theorem d_Rows_isBefore_12 : decode b_Rows_isBefore 12 = .ok (.aload_n 0, 1) := by decide +kernel
theorem d_Rows_isBefore_13 : decode b_Rows_isBefore 13 = .ok (.iload_n 1, 1) := by decide +kernel
theorem d_Rows_isBefore_14 : decode b_Rows_isBefore 14 = .ok (.aload_n 3, 1) := by decide +kernel
theorem d_Rows_isBefore_15 : decode b_Rows_isBefore 15 = .ok (.getfield 60, 3) := by decide +kernel
theorem d_Rows_isBefore_18 : decode b_Rows_isBefore 18 = .ok (.iload 4, 2) := by decide +kernel
theorem d_Rows_isBefore_20 : decode b_Rows_isBefore 20 = .ok (.iaload, 1) := by decide +kernel
theorem d_Rows_isBefore_21 : decode b_Rows_isBefore 21 = .ok (.invokevirtual 29, 3) := by decide +kernel
theorem d_Rows_isBefore_24 : decode b_Rows_isBefore 24 = .ok (.lstore 5, 2) := by decide +kernel
theorem d_Rows_isBefore_26 : decode b_Rows_isBefore 26 = .ok (.aload_n 0, 1) := by decide +kernel
theorem d_Rows_isBefore_27 : decode b_Rows_isBefore 27 = .ok (.iload_n 2, 1) := by decide +kernel
theorem d_Rows_isBefore_28 : decode b_Rows_isBefore 28 = .ok (.aload_n 3, 1) := by decide +kernel
theorem d_Rows_isBefore_29 : decode b_Rows_isBefore 29 = .ok (.getfield 60, 3) := by decide +kernel
theorem d_Rows_isBefore_32 : decode b_Rows_isBefore 32 = .ok (.iload 4, 2) := by decide +kernel
theorem d_Rows_isBefore_34 : decode b_Rows_isBefore 34 = .ok (.iaload, 1) := by decide +kernel
theorem d_Rows_isBefore_35 : decode b_Rows_isBefore 35 = .ok (.invokevirtual 29, 3) := by decide +kernel
theorem d_Rows_isBefore_38 : decode b_Rows_isBefore 38 = .ok (.lstore 7, 2) := by decide +kernel
theorem d_Rows_isBefore_40 : decode b_Rows_isBefore 40 = .ok (.lload 5, 2) := by decide +kernel
theorem d_Rows_isBefore_42 : decode b_Rows_isBefore 42 = .ok (.lload 7, 2) := by decide +kernel
theorem d_Rows_isBefore_44 : decode b_Rows_isBefore 44 = .ok (.lcmp, 1) := by decide +kernel
theorem d_Rows_isBefore_45 : decode b_Rows_isBefore 45 = .ok (.ifCond .eq 43, 3) := by decide +kernel
theorem d_Rows_isBefore_48 : decode b_Rows_isBefore 48 = .ok (.aload_n 3, 1) := by decide +kernel
theorem d_Rows_isBefore_49 : decode b_Rows_isBefore 49 = .ok (.getfield 62, 3) := by decide +kernel
theorem d_Rows_isBefore_52 : decode b_Rows_isBefore 52 = .ok (.iload 4, 2) := by decide +kernel
theorem d_Rows_isBefore_54 : decode b_Rows_isBefore 54 = .ok (.baload, 1) := by decide +kernel
theorem d_Rows_isBefore_55 : decode b_Rows_isBefore 55 = .ok (.ifCond .eq 19, 3) := by decide +kernel
theorem d_Rows_isBefore_58 : decode b_Rows_isBefore 58 = .ok (.lload 5, 2) := by decide +kernel
theorem d_Rows_isBefore_60 : decode b_Rows_isBefore 60 = .ok (.lload 7, 2) := by decide +kernel
theorem d_Rows_isBefore_62 : decode b_Rows_isBefore 62 = .ok (.lcmp, 1) := by decide +kernel
theorem d_Rows_isBefore_63 : decode b_Rows_isBefore 63 = .ok (.ifCond .le 7, 3) := by decide +kernel
theorem d_Rows_isBefore_66 : decode b_Rows_isBefore 66 = .ok (.iconst 1, 1) := by decide +kernel
theorem d_Rows_isBefore_67 : decode b_Rows_isBefore 67 = .ok (.goto 20, 3) := by decide +kernel
theorem d_Rows_isBefore_70 : decode b_Rows_isBefore 70 = .ok (.iconst 0, 1) := by decide +kernel
theorem d_Rows_isBefore_71 : decode b_Rows_isBefore 71 = .ok (.goto 16, 3) := by decide +kernel
theorem d_Rows_isBefore_74 : decode b_Rows_isBefore 74 = .ok (.lload 5, 2) := by decide +kernel
theorem d_Rows_isBefore_76 : decode b_Rows_isBefore 76 = .ok (.lload 7, 2) := by decide +kernel
theorem d_Rows_isBefore_78 : decode b_Rows_isBefore 78 = .ok (.lcmp, 1) := by decide +kernel
theorem d_Rows_isBefore_79 : decode b_Rows_isBefore 79 = .ok (.ifCond .ge 7, 3) := by decide +kernel
theorem d_Rows_isBefore_82 : decode b_Rows_isBefore 82 = .ok (.iconst 1, 1) := by decide +kernel
theorem d_Rows_isBefore_83 : decode b_Rows_isBefore 83 = .ok (.goto 4, 3) := by decide +kernel
theorem d_Rows_isBefore_86 : decode b_Rows_isBefore 86 = .ok (.iconst 0, 1) := by decide +kernel
theorem d_Rows_isBefore_87 : decode b_Rows_isBefore 87 = .ok (.ireturn, 1) := by decide +kernel
theorem d_Rows_isBefore_88 : decode b_Rows_isBefore 88 = .ok (.iinc 4 1, 3) := by decide +kernel
theorem d_Rows_isBefore_91 : decode b_Rows_isBefore 91 = .ok (.goto (-88), 3) := by decide +kernel
theorem d_Rows_isBefore_94 : decode b_Rows_isBefore 94 = .ok (.aload_n 0, 1) := by decide +kernel
theorem d_Rows_isBefore_95 : decode b_Rows_isBefore 95 = .ok (.iload_n 1, 1) := by decide +kernel
theorem d_Rows_isBefore_96 : decode b_Rows_isBefore 96 = .ok (.bipush 9, 2) := by decide +kernel
theorem d_Rows_isBefore_98 : decode b_Rows_isBefore 98 = .ok (.invokevirtual 29, 3) := by decide +kernel
theorem d_Rows_isBefore_101 : decode b_Rows_isBefore 101 = .ok (.aload_n 0, 1) := by decide +kernel
theorem d_Rows_isBefore_102 : decode b_Rows_isBefore 102 = .ok (.iload_n 2, 1) := by decide +kernel
theorem d_Rows_isBefore_103 : decode b_Rows_isBefore 103 = .ok (.bipush 9, 2) := by decide +kernel
theorem d_Rows_isBefore_105 : decode b_Rows_isBefore 105 = .ok (.invokevirtual 29, 3) := by decide +kernel
theorem d_Rows_isBefore_108 : decode b_Rows_isBefore 108 = .ok (.lcmp, 1) := by decide +kernel
theorem d_Rows_isBefore_109 : decode b_Rows_isBefore 109 = .ok (.ifCond .ge 7, 3) := by decide +kernel
theorem d_Rows_isBefore_112 : decode b_Rows_isBefore 112 = .ok (.iconst 1, 1) := by decide +kernel
theorem d_Rows_isBefore_113 : decode b_Rows_isBefore 113 = .ok (.goto 4, 3) := by decide +kernel
theorem d_Rows_isBefore_116 : decode b_Rows_isBefore 116 = .ok (.iconst 0, 1) := by decide +kernel
theorem d_Rows_isBefore_117 : decode b_Rows_isBefore 117 = .ok (.ireturn, 1) := by decide +kernel
set_option maxHeartbeats 4000000 in
set_option maxRecDepth 100000 in
theorem c_FQ_isWithin (l : Launch) (D : va_G) (cI cL cZ cW cR : ClassId) (x y z : Int32) : Met l y_FQ_isWithin ws_FQ_isWithin rm0_0 (zPr D vwCl (zT cI cL cZ cW cR) [] [.int x, .int y, .int z]) (zSi (zb (decide (y ≤ x ∧ x ≤ z)))) 0 0 (fun _ => False) := by
  refine zk_enterR (cc := b_FQ_isWithin) (maxL := 3) (ret := some .boolean) (by decide) rfl (Nat.le_of_ble_eq_true rfl) ?_
  intro p e s m args below meth c ls Q hx hb hml hr hlk hown hts hP hK hN hl hQ
  have hl : lv_has ls 3 [(0, .int x), (1, .int y), (2, .int z)] := hl
  refine lv_iload_n hx hb d_FQ_isWithin_0 rfl (lv_at hl 0 rfl) ?_
  refine lv_iload_n hx hb d_FQ_isWithin_1 rfl (lv_at hl 1 rfl) ?_
  refine lv_icmp_lt (tgt := 14) hx hb d_FQ_isWithin_2 rfl (fun h2 => ?_) (fun h2 => ?_)
  · skip
    refine lv_iconst (v := nI 0) hx hb d_FQ_isWithin_14 (by decide) ?_
    exact zk_zretR hx hb hr hlk hQ (by first | exact zk_t ⟨Int32.not_lt.mp h2, Int32.not_lt.mp h7⟩ | exact zk_f (fun q => absurd q.2 (Int32.not_le.mpr h7)) | exact zk_f (fun q => absurd q.1 (Int32.not_le.mpr h2))) d_FQ_isWithin_15
  · skip
    refine lv_iload_n hx hb d_FQ_isWithin_5 rfl (lv_at hl 0 rfl) ?_
    refine lv_iload_n hx hb d_FQ_isWithin_6 rfl (lv_at hl 2 rfl) ?_
    refine lv_icmp_gt (tgt := 14) hx hb d_FQ_isWithin_7 rfl (fun h7 => ?_) (fun h7 => ?_)
    · skip
      refine lv_iconst (v := nI 0) hx hb d_FQ_isWithin_14 (by decide) ?_
      exact zk_zretR hx hb hr hlk hQ (by first | exact zk_t ⟨Int32.not_lt.mp h2, Int32.not_lt.mp h7⟩ | exact zk_f (fun q => absurd q.2 (Int32.not_le.mpr h7)) | exact zk_f (fun q => absurd q.1 (Int32.not_le.mpr h2))) d_FQ_isWithin_15
    · skip
      refine lv_iconst (v := nI 1) hx hb d_FQ_isWithin_10 (by decide) ?_
      refine lv_goto (tgt := 15) hx hb d_FQ_isWithin_11 rfl ?_
      exact zk_zretR hx hb hr hlk hQ (by first | exact zk_t ⟨Int32.not_lt.mp h2, Int32.not_lt.mp h7⟩ | exact zk_f (fun q => absurd q.2 (Int32.not_le.mpr h7)) | exact zk_f (fun q => absurd q.1 (Int32.not_le.mpr h2))) d_FQ_isWithin_15
set_option maxHeartbeats 4000000 in
set_option maxRecDepth 100000 in
theorem c_FQ_isTable (l : Launch) (D : va_G) (cI cL cZ cW cR : ClassId) (x : Int32) : Met l y_FQ_isTable ws_FQ_isTable rm0_0 (zPr D vwCl (zT cI cL cZ cW cR) [] [.int x]) (zSi (zb (decide (x = 0 ∨ x = 1)))) 0 0 (fun _ => False) := by
  refine zk_enterR (cc := b_FQ_isTable) (maxL := 1) (ret := some .boolean) (by decide) rfl (Nat.le_of_ble_eq_true rfl) ?_
  intro p e s m args below meth c ls Q hx hb hml hr hlk hown hts hP hK hN hl hQ
  have hl : lv_has ls 1 [(0, .int x)] := hl
  refine lv_iload_n hx hb d_FQ_isTable_0 rfl (lv_at hl 0 rfl) ?_
  refine lv_if_eq (tgt := 9) hx hb d_FQ_isTable_1 rfl (fun h1 => ?_) (fun h1 => ?_)
  · skip
    refine lv_iconst (v := nI 1) hx hb d_FQ_isTable_9 (by decide) ?_
    refine lv_goto (tgt := 14) hx hb d_FQ_isTable_10 rfl ?_
    exact zk_zretR hx hb hr hlk hQ (by first | exact zk_t (Or.inl h1) | exact zk_f (fun q => q.elim h1 h6) | exact zk_t (Or.inr h6)) d_FQ_isTable_14
  · skip
    refine lv_iload_n hx hb d_FQ_isTable_4 rfl (lv_at hl 0 rfl) ?_
    refine lv_iconst (v := nI 1) hx hb d_FQ_isTable_5 (by decide) ?_
    refine lv_icmp_ne (tgt := 13) hx hb d_FQ_isTable_6 rfl (fun h6 => ?_) (fun h6 => ?_)
    · skip
      refine lv_iconst (v := nI 0) hx hb d_FQ_isTable_13 (by decide) ?_
      exact zk_zretR hx hb hr hlk hQ (by first | exact zk_t (Or.inl h1) | exact zk_f (fun q => q.elim h1 h6) | exact zk_t (Or.inr h6)) d_FQ_isTable_14
    · skip
      refine lv_iconst (v := nI 1) hx hb d_FQ_isTable_9 (by decide) ?_
      refine lv_goto (tgt := 14) hx hb d_FQ_isTable_10 rfl ?_
      exact zk_zretR hx hb hr hlk hQ (by first | exact zk_t (Or.inl h1) | exact zk_f (fun q => q.elim h1 h6) | exact zk_t (Or.inr h6)) d_FQ_isTable_14
set_option maxHeartbeats 4000000 in
set_option maxRecDepth 100000 in
theorem c_FQ_isTableColumn (l : Launch) (D : va_G) (cI cL cZ cW cR : ClassId) (x : Int32) : Met l y_FQ_isTableColumn ws_FQ_isTableColumn rm1_30 (zPr D vwCl (zT cI cL cZ cW cR) [] [.int x]) (zSi (zb (decide (0 ≤ x ∧ x ≤ 2)))) 0 0 (fun _ => False) := by
  refine zk_enterR (cc := b_FQ_isTableColumn) (maxL := 1) (ret := some .boolean) (by decide) rfl (Nat.le_of_ble_eq_true rfl) ?_
  intro p e s m args below meth c ls Q hx hb hml hr hlk hown hts hP hK hN hl hQ
  have hl : lv_has ls 1 [(0, .int x)] := hl
  refine lv_iload_n hx hb d_FQ_isTableColumn_0 rfl (lv_at hl 0 rfl) ?_
  refine lv_iconst (v := nI 0) hx hb d_FQ_isTableColumn_1 (by decide) ?_
  refine lv_iconst (v := nI 2) hx hb d_FQ_isTableColumn_2 (by decide) ?_
  have hPc := hP.sub (ws' := []) [] rfl
  refine zk_ri (va_runS (As := [.int x, .int (nI 0), .int (nI 2)]) (rest := []) ⟨hx, hb, hml, hown, hts⟩ (c_FQ_isWithin l D cI cL cZ cW cR x (nI 0) (nI 2)) (cwS 3 hts (zk_gS (fun _ h => List.mem_cons_of_mem _ h) ml_FQ_9 sm_FQ_isWithin in_FQ co_FQ_isWithin) rfl rfl rfl ⟨rfl, hd_FQ_isWithin⟩ ⟨Nat.le_of_ble_eq_true rfl, Nat.le_of_ble_eq_true rfl⟩) (zk_sr hN hK hPc) rfl rfl hl.1 rfl (lv_room (Nat.le_of_ble_eq_true rfl)) d_FQ_isTableColumn_3 ⟨Nat.zero_le _, Nat.zero_le _⟩) ?_
  exact zk_zretR hx hb hr hlk hQ (rfl) d_FQ_isTableColumn_6
set_option maxHeartbeats 4000000 in
set_option maxRecDepth 100000 in
theorem c_FQ_isJoinedColumn (l : Launch) (D : va_G) (cI cL cZ cW cR : ClassId) (x : Int32) : Met l y_FQ_isJoinedColumn ws_FQ_isJoinedColumn rm1_30 (zPr D vwCl (zT cI cL cZ cW cR) [] [.int x]) (zSi (zb (decide (0 ≤ x ∧ x ≤ 5)))) 0 0 (fun _ => False) := by
  refine zk_enterR (cc := b_FQ_isJoinedColumn) (maxL := 1) (ret := some .boolean) (by decide) rfl (Nat.le_of_ble_eq_true rfl) ?_
  intro p e s m args below meth c ls Q hx hb hml hr hlk hown hts hP hK hN hl hQ
  have hl : lv_has ls 1 [(0, .int x)] := hl
  refine lv_iload_n hx hb d_FQ_isJoinedColumn_0 rfl (lv_at hl 0 rfl) ?_
  refine lv_iconst (v := nI 0) hx hb d_FQ_isJoinedColumn_1 (by decide) ?_
  refine lv_iconst (v := nI 5) hx hb d_FQ_isJoinedColumn_2 (by decide) ?_
  have hPc := hP.sub (ws' := []) [] rfl
  refine zk_ri (va_runS (As := [.int x, .int (nI 0), .int (nI 5)]) (rest := []) ⟨hx, hb, hml, hown, hts⟩ (c_FQ_isWithin l D cI cL cZ cW cR x (nI 0) (nI 5)) (cwS 3 hts (zk_gS (fun _ h => List.mem_cons_of_mem _ h) ml_FQ_9 sm_FQ_isWithin in_FQ co_FQ_isWithin) rfl rfl rfl ⟨rfl, hd_FQ_isWithin⟩ ⟨Nat.le_of_ble_eq_true rfl, Nat.le_of_ble_eq_true rfl⟩) (zk_sr hN hK hPc) rfl rfl hl.1 rfl (lv_room (Nat.le_of_ble_eq_true rfl)) d_FQ_isJoinedColumn_3 ⟨Nat.zero_le _, Nat.zero_le _⟩) ?_
  exact zk_zretR hx hb hr hlk hQ (rfl) d_FQ_isJoinedColumn_6
set_option maxHeartbeats 4000000 in
set_option maxRecDepth 100000 in
theorem c_FQ_isColumnOrNone (l : Launch) (D : va_G) (cI cL cZ cW cR : ClassId) (x : Int32) : Met l y_FQ_isColumnOrNone ws_FQ_isColumnOrNone rm2_60 (zPr D vwCl (zT cI cL cZ cW cR) [] [.int x]) (zSi (zb (decide (x = -1 ∨ (0 ≤ x ∧ x ≤ 5))))) 0 0 (fun _ => False) := by
  refine zk_enterR (cc := b_FQ_isColumnOrNone) (maxL := 1) (ret := some .boolean) (by decide) rfl (Nat.le_of_ble_eq_true rfl) ?_
  intro p e s m args below meth c ls Q hx hb hml hr hlk hown hts hP hK hN hl hQ
  have hl : lv_has ls 1 [(0, .int x)] := hl
  refine lv_iload_n hx hb d_FQ_isColumnOrNone_0 rfl (lv_at hl 0 rfl) ?_
  refine lv_iconst (v := (-1)) hx hb d_FQ_isColumnOrNone_1 (by decide) ?_
  refine lv_icmp_eq (tgt := 12) hx hb d_FQ_isColumnOrNone_2 rfl (fun h2 => ?_) (fun h2 => ?_)
  · skip
    refine lv_iconst (v := nI 1) hx hb d_FQ_isColumnOrNone_12 (by decide) ?_
    refine lv_goto (tgt := 17) hx hb d_FQ_isColumnOrNone_13 rfl ?_
    exact zk_zretR hx hb hr hlk hQ (by first | exact zk_t (Or.inl h2) | exact zk_t (Or.inr (of_decide_eq_true h9)) | exact zk_f (fun q => q.elim h2 (of_decide_eq_false h9))) d_FQ_isColumnOrNone_17
  · skip
    refine lv_iload_n hx hb d_FQ_isColumnOrNone_5 rfl (lv_at hl 0 rfl) ?_
    have hPc := hP.sub (ws' := []) [] rfl
    refine zk_ri (va_runS (As := [.int x]) (rest := []) ⟨hx, hb, hml, hown, hts⟩ (c_FQ_isJoinedColumn l D cI cL cZ cW cR x) (cwS 1 hts (zk_gS (fun _ h => List.mem_cons_of_mem _ h) ml_FQ_81 sm_FQ_isJoinedColumn in_FQ co_FQ_isJoinedColumn) rfl rfl rfl ⟨rfl, hd_FQ_isJoinedColumn⟩ ⟨Nat.le_of_ble_eq_true rfl, Nat.le_of_ble_eq_true rfl⟩) (zk_sr hN hK hPc) rfl rfl hl.1 rfl (lv_room (Nat.le_of_ble_eq_true rfl)) d_FQ_isColumnOrNone_6 ⟨Nat.zero_le _, Nat.zero_le _⟩) ?_
    refine zk_ifb_eq (tgt := 16) hx hb d_FQ_isColumnOrNone_9 rfl (fun h9 => ?_) (fun h9 => ?_)
    · skip
      refine lv_iconst (v := nI 0) hx hb d_FQ_isColumnOrNone_16 (by decide) ?_
      exact zk_zretR hx hb hr hlk hQ (by first | exact zk_t (Or.inl h2) | exact zk_t (Or.inr (of_decide_eq_true h9)) | exact zk_f (fun q => q.elim h2 (of_decide_eq_false h9))) d_FQ_isColumnOrNone_17
    · skip
      refine lv_iconst (v := nI 1) hx hb d_FQ_isColumnOrNone_12 (by decide) ?_
      refine lv_goto (tgt := 17) hx hb d_FQ_isColumnOrNone_13 rfl ?_
      exact zk_zretR hx hb hr hlk hQ (by first | exact zk_t (Or.inl h2) | exact zk_t (Or.inr (of_decide_eq_true h9)) | exact zk_f (fun q => q.elim h2 (of_decide_eq_false h9))) d_FQ_isColumnOrNone_17
set_option maxHeartbeats 4000000 in
set_option maxRecDepth 100000 in
theorem c_FQ_quotientUp (l : Launch) (D : va_G) (cI cL cZ cW cR : ClassId) (x y : Nat) (hy : 0 < y) (hxy : x + y < 2147483648) : Met l y_FQ_quotientUp ws_FQ_quotientUp rm0_0 (zPr D vwCl (zT cI cL cZ cW cR) [] [.int (nI x), .int (nI y)]) (zSi (nI ((x + y - 1) / y))) 0 0 (fun _ => False) := by
  refine zk_enterR (cc := b_FQ_quotientUp) (maxL := 2) (ret := some .int) (by decide) rfl (Nat.le_of_ble_eq_true rfl) ?_
  intro p e s m args below meth c ls Q hx hb hml hr hlk hown hts hP hK hN hl hQ
  have hl : lv_has ls 2 [(0, .int (nI x)), (1, .int (nI y))] := hl
  refine lv_iload_n hx hb d_FQ_quotientUp_0 rfl (lv_at hl 0 rfl) ?_
  refine lv_iload_n hx hb d_FQ_quotientUp_1 rfl (lv_at hl 1 rfl) ?_
  refine lv_iadd hx hb d_FQ_quotientUp_2 ?_
  refine zk_topi (show (nI x) + (nI y) = nI (x + y) from nI_add x y) ?_
  refine lv_iconst (v := nI 1) hx hb d_FQ_quotientUp_3 (by decide) ?_
  refine lv_isub hx hb d_FQ_quotientUp_4 ?_
  refine zk_topi (show (nI (x + y)) - (nI 1) = nI (x + y - 1) from pk_sub (by omega)) ?_
  refine lv_iload_n hx hb d_FQ_quotientUp_5 rfl (lv_at hl 1 rfl) ?_
  refine lv_idiv hx hb d_FQ_quotientUp_6 (nI_ne0 (by omega) (by omega)) ?_
  refine zk_topi (show (nI (x + y - 1)) / (nI y) = nI ((x + y - 1) / y) from pk_div (by omega) (by omega) (by omega)) ?_
  exact zk_iretR hx hb hr hlk hQ (rfl) d_FQ_quotientUp_7
set_option maxHeartbeats 4000000 in
set_option maxRecDepth 100000 in
theorem c_FQ_blocksOf (l : Launch) (D : va_G) (cI cL cZ cW cR : ClassId) (x : Nat) (hx0 : x < 2147483000) : Met l y_FQ_blocksOf ws_FQ_blocksOf rm1_30 (zPr D vwCl (zT cI cL cZ cW cR) [] [.int (nI x)]) (zSi (nI ((x + 3) / 4))) 0 0 (fun _ => False) := by
  refine zk_enterR (cc := b_FQ_blocksOf) (maxL := 1) (ret := some .int) (by decide) rfl (Nat.le_of_ble_eq_true rfl) ?_
  intro p e s m args below meth c ls Q hx hb hml hr hlk hown hts hP hK hN hl hQ
  have hl : lv_has ls 1 [(0, .int (nI x))] := hl
  refine lv_iload_n hx hb d_FQ_blocksOf_0 rfl (lv_at hl 0 rfl) ?_
  refine lv_iconst (v := nI 4) hx hb d_FQ_blocksOf_1 (by decide) ?_
  have hPc := hP.sub (ws' := []) [] rfl
  refine zk_ri (va_runS (As := [.int (nI x), .int (nI 4)]) (rest := []) ⟨hx, hb, hml, hown, hts⟩ (c_FQ_quotientUp l D cI cL cZ cW cR x 4 (by omega) (by omega)) (cwS 2 hts (zk_gS (fun _ h => List.mem_cons_of_mem _ h) ml_FQ_170 sm_FQ_quotientUp in_FQ co_FQ_quotientUp) rfl rfl rfl ⟨rfl, hd_FQ_quotientUp⟩ ⟨Nat.le_of_ble_eq_true rfl, Nat.le_of_ble_eq_true rfl⟩) (zk_sr hN hK hPc) rfl rfl hl.1 rfl (lv_room (Nat.le_of_ble_eq_true rfl)) d_FQ_blocksOf_2 ⟨Nat.zero_le _, Nat.zero_le _⟩) ?_
  exact zk_iretR hx hb hr hlk hQ (by rw [show x + 4 - 1 = x + 3 by omega]) d_FQ_blocksOf_5
set_option maxHeartbeats 4000000 in
set_option maxRecDepth 100000 in
theorem c_Rows_isFull (l : Launch) (D : va_G) (cI cL cZ cW cR : ClassId) (r v a b k n nv ns : Nat) (f : Nat → Int64) (g h : Nat → Nat) (hns : ns < 1000) (hn : n < 1000) : Met l y_Rows_isFull ws_Rows_isFull rm0_0 (zPr D vwCl (zT cI cL cZ cW cR) [(r, .inr (0, [.int (nI k), .ref v, .ref a, .ref b, .int (nI n)])), (v, .inl (cL, nv, .inr (.inl f))), (a, .inl (cI, ns, .inl (zN g))), (b, .inl (cI, ns, .inl (zN h)))] [.ref r]) (zSi (zb (decide (ns ≤ n)))) 0 0 (fun _ => False) := by
  refine zk_enterR (cc := b_Rows_isFull) (maxL := 1) (ret := some .boolean) (by decide) rfl (Nat.le_of_ble_eq_true rfl) ?_
  intro p e s m args below meth c ls Q hx hb hml hr hlk hown hts hP hK hN hl hQ
  have hl : lv_has ls 1 [(0, .ref r)] := hl
  refine lv_aload_n hx hb d_Rows_isFull_0 rfl (lv_at hl 0 rfl) ?_
  refine va_get (C := R_Rows) (T := F_Rows) (N := 5) hx hb hts (fun w h => List.mem_cons_of_mem _ (hin_Rows w h)) hown hK hP 0 rfl rfl 4 (by decide) (hts _ (List.mem_cons_of_mem _ fl_Rows_26)) (fun _ h => h) rfl d_Rows_isFull_1 ?_
  refine lv_aload_n hx hb d_Rows_isFull_4 rfl (lv_at hl 0 rfl) ?_
  refine va_get (C := R_Rows) (T := F_Rows) (N := 5) hx hb hts (fun w h => List.mem_cons_of_mem _ (hin_Rows w h)) hown hK hP 0 rfl rfl 2 (by decide) (hts _ (List.mem_cons_of_mem _ fl_Rows_19)) (fun _ h => h) rfl d_Rows_isFull_5 ?_
  refine va_alen (v := nI ns) hx hb hK hP 2 0 rfl rfl rfl d_Rows_isFull_8 ?_
  refine zk_icmp_lt (tgt := 16) hx hb d_Rows_isFull_9 rfl (by omega) (by omega) (fun h9 => ?_) (fun h9 => ?_)
  · skip
    refine lv_iconst (v := nI 0) hx hb d_Rows_isFull_16 (by decide) ?_
    exact zk_zretR hx hb hr hlk hQ (by first | exact zk_t (by omega) | exact zk_f (by omega)) d_Rows_isFull_17
  · skip
    refine lv_iconst (v := nI 1) hx hb d_Rows_isFull_12 (by decide) ?_
    refine lv_goto (tgt := 17) hx hb d_Rows_isFull_13 rfl ?_
    exact zk_zretR hx hb hr hlk hQ (by first | exact zk_t (by omega) | exact zk_f (by omega)) d_Rows_isFull_17
set_option maxHeartbeats 4000000 in
set_option maxRecDepth 100000 in
theorem c_Rows_removeAll (l : Launch) (D : va_G) (cI cL cZ cW cR : ClassId) (sz : Nat) (r v a b k n nv ns : Nat) (f : Nat → Int64) (g h : Nat → Nat) : Met l y_Rows_removeAll ws_Rows_removeAll rm0_0 (zPw D vwCl (zT cI cL cZ cW cR) [(r, .inr (0, [.int (nI k), .ref v, .ref a, .ref b, .int (nI n)])), (v, .inl (cL, nv, .inr (.inl f))), (a, .inl (cI, ns, .inl (zN g))), (b, .inl (cI, ns, .inl (zN h)))] sz [.ref r]) (zQv D vwCl (zT cI cL cZ cW cR) [(r, .inr (0, [.int (nI k), .ref v, .ref a, .ref b, .int (nI n)])), (v, .inl (cL, nv, .inr (.inl f))), (a, .inl (cI, ns, .inl (zN g))), (b, .inl (cI, ns, .inl (zN h)))] sz (fun _ : Unit => True) (fun _ => [(r, .inr (0, [.int (nI k), .ref v, .ref a, .ref b, .int (nI 0)])), (v, .inl (cL, nv, .inr (.inl f))), (a, .inl (cI, ns, .inl (zN g))), (b, .inl (cI, ns, .inl (zN h)))])) 0 0 (va_A [(r, .inr (0, [.int (nI k), .ref v, .ref a, .ref b, .int (nI n)])), (v, .inl (cL, nv, .inr (.inl f))), (a, .inl (cI, ns, .inl (zN g))), (b, .inl (cI, ns, .inl (zN h)))] sz) := by
  refine zk_enterW (cc := b_Rows_removeAll) (maxL := 1) (ret := none) (by decide) rfl (Nat.le_of_ble_eq_true rfl) ?_
  intro p e s m args below meth c ls Q hx hb hml hr hlk hown hts hP hK hN hl hin hsz A hAe hA hD hS hQ
  subst hsz
  have hl : lv_has ls 1 [(0, .ref r)] := hl
  refine lv_aload_n hx hb d_Rows_removeAll_0 rfl (lv_at hl 0 rfl) ?_
  refine lv_iconst (v := nI 0) hx hb d_Rows_removeAll_1 (by decide) ?_
  refine va_put (D := D) (v := .int (nI 0)) (ty := .int) (C := R_Rows) (T := F_Rows) (N := 5) hx hb hts (fun w h => List.mem_cons_of_mem _ (hin_Rows w h)) t_Rows t_Rows_ok n_Rows hown hK hP hD hS 0 rfl rfl 4 (by decide) (hts _ (List.mem_cons_of_mem _ fl_Rows_26)) (fun _ h => h) rfl (by decide +kernel) rfl rfl (Nat.le_of_ble_eq_true rfl) d_Rows_removeAll_2 (fun H locs hP hD hS => ?_)
  have hP : va_P D vwCl [(r, .inr (0, [.int (nI k), .ref v, .ref a, .ref b, .int (nI 0)])), (v, .inl (cL, nv, .inr (.inl f))), (a, .inl (cI, ns, .inl (zN g))), (b, .inl (cI, ns, .inl (zN h)))] H := hP
  have hD : va_D A [(r, .inr (0, [.int (nI k), .ref v, .ref a, .ref b, .int (nI 0)])), (v, .inl (cL, nv, .inr (.inl f))), (a, .inl (cI, ns, .inl (zN g))), (b, .inl (cI, ns, .inl (zN h)))] := hD
  exact zk_vretW hx hb hr hlk hAe hQ hK (()) (trivial) hP hD hS d_Rows_removeAll_5
set_option maxHeartbeats 4000000 in
set_option maxRecDepth 100000 in
theorem c_Rows_addRow (l : Launch) (D : va_G) (cI cL cZ cW cR : ClassId) (sz : Nat) (r v a b k n nv ns : Nat) (f : Nat → Int64) (g h : Nat → Nat) (hns : ns < 1000) (hn : n < ns) : Met l y_Rows_addRow ws_Rows_addRow rm0_0 (zPw D vwCl (zT cI cL cZ cW cR) [(r, .inr (0, [.int (nI k), .ref v, .ref a, .ref b, .int (nI n)])), (v, .inl (cL, nv, .inr (.inl f))), (a, .inl (cI, ns, .inl (zN g))), (b, .inl (cI, ns, .inl (zN h)))] sz [.ref r]) (zQi D vwCl (zT cI cL cZ cW cR) [(r, .inr (0, [.int (nI k), .ref v, .ref a, .ref b, .int (nI n)])), (v, .inl (cL, nv, .inr (.inl f))), (a, .inl (cI, ns, .inl (zN g))), (b, .inl (cI, ns, .inl (zN h)))] sz (fun x (_ : Unit) => x = nI n) (fun _ => [(r, .inr (0, [.int (nI k), .ref v, .ref a, .ref b, .int (nI (n + 1))])), (v, .inl (cL, nv, .inr (.inl f))), (a, .inl (cI, ns, .inl (zN (va_up g n n)))), (b, .inl (cI, ns, .inl (zN h)))])) 0 0 (va_A [(r, .inr (0, [.int (nI k), .ref v, .ref a, .ref b, .int (nI n)])), (v, .inl (cL, nv, .inr (.inl f))), (a, .inl (cI, ns, .inl (zN g))), (b, .inl (cI, ns, .inl (zN h)))] sz) := by
  refine zk_enterW (cc := b_Rows_addRow) (maxL := 1) (ret := some .int) (by decide) rfl (Nat.le_of_ble_eq_true rfl) ?_
  intro p e s m args below meth c ls Q hx hb hml hr hlk hown hts hP hK hN hl hin hsz A hAe hA hD hS hQ
  subst hsz
  have hl : lv_has ls 1 [(0, .ref r)] := hl
  refine lv_aload_n hx hb d_Rows_addRow_0 rfl (lv_at hl 0 rfl) ?_
  refine va_get (C := R_Rows) (T := F_Rows) (N := 5) hx hb hts (fun w h => List.mem_cons_of_mem _ (hin_Rows w h)) hown hK hP 0 rfl rfl 2 (by decide) (hts _ (List.mem_cons_of_mem _ fl_Rows_19)) (fun _ h => h) rfl d_Rows_addRow_1 ?_
  refine lv_aload_n hx hb d_Rows_addRow_4 rfl (lv_at hl 0 rfl) ?_
  refine va_get (C := R_Rows) (T := F_Rows) (N := 5) hx hb hts (fun w h => List.mem_cons_of_mem _ (hin_Rows w h)) hown hK hP 0 rfl rfl 4 (by decide) (hts _ (List.mem_cons_of_mem _ fl_Rows_26)) (fun _ h => h) rfl d_Rows_addRow_5 ?_
  refine lv_aload_n hx hb d_Rows_addRow_8 rfl (lv_at hl 0 rfl) ?_
  refine va_get (C := R_Rows) (T := F_Rows) (N := 5) hx hb hts (fun w h => List.mem_cons_of_mem _ (hin_Rows w h)) hown hK hP 0 rfl rfl 4 (by decide) (hts _ (List.mem_cons_of_mem _ fl_Rows_26)) (fun _ h => h) rfl d_Rows_addRow_9 ?_
  refine zk_nast hx hb hK hP hD hS 2 0 rfl rfl (by omega) (by omega) d_Rows_addRow_12 (fun H locs hP hD hS => ?_)
  have hP : va_P D vwCl [(r, .inr (0, [.int (nI k), .ref v, .ref a, .ref b, .int (nI n)])), (v, .inl (cL, nv, .inr (.inl f))), (a, .inl (cI, ns, .inl (zN (va_up g n n)))), (b, .inl (cI, ns, .inl (zN h)))] H := hP
  have hD : va_D A [(r, .inr (0, [.int (nI k), .ref v, .ref a, .ref b, .int (nI n)])), (v, .inl (cL, nv, .inr (.inl f))), (a, .inl (cI, ns, .inl (zN (va_up g n n)))), (b, .inl (cI, ns, .inl (zN h)))] := hD
  refine lv_aload_n hx hb d_Rows_addRow_13 rfl (lv_at hl 0 rfl) ?_
  refine lv_dup hx hb d_Rows_addRow_14 rfl ?_
  refine va_get (C := R_Rows) (T := F_Rows) (N := 5) hx hb hts (fun w h => List.mem_cons_of_mem _ (hin_Rows w h)) hown hK hP 0 rfl rfl 4 (by decide) (hts _ (List.mem_cons_of_mem _ fl_Rows_26)) (fun _ h => h) rfl d_Rows_addRow_15 ?_
  refine lv_iconst (v := nI 1) hx hb d_Rows_addRow_18 (by decide) ?_
  refine lv_iadd hx hb d_Rows_addRow_19 ?_
  refine zk_topi (show (nI n) + (nI 1) = nI (n + 1) from nI_add n 1) ?_
  refine va_put (D := D) (v := .int (nI (n + 1))) (ty := .int) (C := R_Rows) (T := F_Rows) (N := 5) hx hb hts (fun w h => List.mem_cons_of_mem _ (hin_Rows w h)) t_Rows t_Rows_ok n_Rows hown hK hP hD hS 0 rfl rfl 4 (by decide) (hts _ (List.mem_cons_of_mem _ fl_Rows_26)) (fun _ h => h) rfl (by decide +kernel) rfl rfl (Nat.le_of_ble_eq_true rfl) d_Rows_addRow_20 (fun H locs hP hD hS => ?_)
  have hP : va_P D vwCl [(r, .inr (0, [.int (nI k), .ref v, .ref a, .ref b, .int (nI (n + 1))])), (v, .inl (cL, nv, .inr (.inl f))), (a, .inl (cI, ns, .inl (zN (va_up g n n)))), (b, .inl (cI, ns, .inl (zN h)))] H := hP
  have hD : va_D A [(r, .inr (0, [.int (nI k), .ref v, .ref a, .ref b, .int (nI (n + 1))])), (v, .inl (cL, nv, .inr (.inl f))), (a, .inl (cI, ns, .inl (zN (va_up g n n)))), (b, .inl (cI, ns, .inl (zN h)))] := hD
  refine lv_aload_n hx hb d_Rows_addRow_23 rfl (lv_at hl 0 rfl) ?_
  refine va_get (C := R_Rows) (T := F_Rows) (N := 5) hx hb hts (fun w h => List.mem_cons_of_mem _ (hin_Rows w h)) hown hK hP 0 rfl rfl 4 (by decide) (hts _ (List.mem_cons_of_mem _ fl_Rows_26)) (fun _ h => h) rfl d_Rows_addRow_24 ?_
  refine lv_iconst (v := nI 1) hx hb d_Rows_addRow_27 (by decide) ?_
  refine lv_isub hx hb d_Rows_addRow_28 ?_
  refine zk_topi (show (nI (n + 1)) - (nI 1) = nI (n + 1 - 1) from pk_sub (by omega)) ?_
  exact zk_iretW hx hb hr hlk hAe hQ hK (()) (by rw [Nat.add_sub_cancel]) hP hD hS d_Rows_addRow_29
set_option maxHeartbeats 4000000 in
set_option maxRecDepth 100000 in
theorem c_Rows_at (l : Launch) (D : va_G) (cI cL cZ cW cR : ClassId) (r v a b k n nv ns : Nat) (f : Nat → Int64) (g h : Nat → Nat) (i j : Nat) (hi : i < ns) (hns : ns < 1000) (hj : g i * k + j < nv) (hnv : nv < 100000) : Met l y_Rows_at ws_Rows_at rm0_0 (zPr D vwCl (zT cI cL cZ cW cR) [(r, .inr (0, [.int (nI k), .ref v, .ref a, .ref b, .int (nI n)])), (v, .inl (cL, nv, .inr (.inl f))), (a, .inl (cI, ns, .inl (zN g))), (b, .inl (cI, ns, .inl (zN h)))] [.ref r, .int (nI i), .int (nI j)]) (zSl (f (g i * k + j))) 0 0 (fun _ => False) := by
  refine zk_enterR (cc := b_Rows_at) (maxL := 3) (ret := some .long) (by decide) rfl (Nat.le_of_ble_eq_true rfl) ?_
  intro p e s m args below meth c ls Q hx hb hml hr hlk hown hts hP hK hN hl hQ
  have hl : lv_has ls 3 [(0, .ref r), (1, .int (nI i)), (2, .int (nI j))] := hl
  refine lv_aload_n hx hb d_Rows_at_0 rfl (lv_at hl 0 rfl) ?_
  refine va_get (C := R_Rows) (T := F_Rows) (N := 5) hx hb hts (fun w h => List.mem_cons_of_mem _ (hin_Rows w h)) hown hK hP 0 rfl rfl 1 (by decide) (hts _ (List.mem_cons_of_mem _ fl_Rows_15)) (fun _ h => h) rfl d_Rows_at_1 ?_
  refine lv_aload_n hx hb d_Rows_at_4 rfl (lv_at hl 0 rfl) ?_
  refine va_get (C := R_Rows) (T := F_Rows) (N := 5) hx hb hts (fun w h => List.mem_cons_of_mem _ (hin_Rows w h)) hown hK hP 0 rfl rfl 2 (by decide) (hts _ (List.mem_cons_of_mem _ fl_Rows_19)) (fun _ h => h) rfl d_Rows_at_5 ?_
  refine lv_iload_n hx hb d_Rows_at_8 rfl (lv_at hl 1 rfl) ?_
  refine zk_nald hx hb hK hP 2 0 rfl rfl (by omega) (by omega) d_Rows_at_9 ?_
  refine lv_aload_n hx hb d_Rows_at_10 rfl (lv_at hl 0 rfl) ?_
  refine va_get (C := R_Rows) (T := F_Rows) (N := 5) hx hb hts (fun w h => List.mem_cons_of_mem _ (hin_Rows w h)) hown hK hP 0 rfl rfl 0 (by decide) (hts _ (List.mem_cons_of_mem _ fl_Rows_9)) (fun _ h => h) rfl d_Rows_at_11 ?_
  refine lv_imul hx hb d_Rows_at_14 ?_
  refine zk_topi (show (nI (g i)) * (nI k) = nI ((g i) * k) from pk_mul (g i) k) ?_
  refine lv_iload_n hx hb d_Rows_at_15 rfl (lv_at hl 2 rfl) ?_
  refine lv_iadd hx hb d_Rows_at_16 ?_
  refine zk_topi (show (nI ((g i) * k)) + (nI j) = nI ((g i) * k + j) from nI_add ((g i) * k) j) ?_
  refine zk_lald hx hb hK hP 1 1 rfl rfl (hj) (by omega) d_Rows_at_17 ?_
  exact zk_lretR hx hb hr hlk hQ (rfl) d_Rows_at_18
set_option maxHeartbeats 4000000 in
set_option maxRecDepth 100000 in
theorem c_Rows_put (l : Launch) (D : va_G) (cI cL cZ cW cR : ClassId) (sz : Nat) (r v a b k n nv ns : Nat) (f : Nat → Int64) (g h : Nat → Nat) (i j : Nat) (x : Int64) (hi : i < ns) (hns : ns < 1000) (hj : g i * k + j < nv) (hnv : nv < 100000) : Met l y_Rows_put ws_Rows_put rm0_0 (zPw D vwCl (zT cI cL cZ cW cR) [(r, .inr (0, [.int (nI k), .ref v, .ref a, .ref b, .int (nI n)])), (v, .inl (cL, nv, .inr (.inl f))), (a, .inl (cI, ns, .inl (zN g))), (b, .inl (cI, ns, .inl (zN h)))] sz [.ref r, .int (nI i), .int (nI j), .long x]) (zQv D vwCl (zT cI cL cZ cW cR) [(r, .inr (0, [.int (nI k), .ref v, .ref a, .ref b, .int (nI n)])), (v, .inl (cL, nv, .inr (.inl f))), (a, .inl (cI, ns, .inl (zN g))), (b, .inl (cI, ns, .inl (zN h)))] sz (fun _ : Unit => True) (fun _ => [(r, .inr (0, [.int (nI k), .ref v, .ref a, .ref b, .int (nI n)])), (v, .inl (cL, nv, .inr (.inl (vp_updL f (g i * k + j) x)))), (a, .inl (cI, ns, .inl (zN g))), (b, .inl (cI, ns, .inl (zN h)))])) 0 0 (va_A [(r, .inr (0, [.int (nI k), .ref v, .ref a, .ref b, .int (nI n)])), (v, .inl (cL, nv, .inr (.inl f))), (a, .inl (cI, ns, .inl (zN g))), (b, .inl (cI, ns, .inl (zN h)))] sz) := by
  refine zk_enterW (cc := b_Rows_put) (maxL := 5) (ret := none) (by decide) rfl (Nat.le_of_ble_eq_true rfl) ?_
  intro p e s m args below meth c ls Q hx hb hml hr hlk hown hts hP hK hN hl hin hsz A hAe hA hD hS hQ
  subst hsz
  have hl : lv_has ls 5 [(0, .ref r), (1, .int (nI i)), (2, .int (nI j)), (3, .long x)] := hl
  refine lv_aload_n hx hb d_Rows_put_0 rfl (lv_at hl 0 rfl) ?_
  refine va_get (C := R_Rows) (T := F_Rows) (N := 5) hx hb hts (fun w h => List.mem_cons_of_mem _ (hin_Rows w h)) hown hK hP 0 rfl rfl 1 (by decide) (hts _ (List.mem_cons_of_mem _ fl_Rows_15)) (fun _ h => h) rfl d_Rows_put_1 ?_
  refine lv_aload_n hx hb d_Rows_put_4 rfl (lv_at hl 0 rfl) ?_
  refine va_get (C := R_Rows) (T := F_Rows) (N := 5) hx hb hts (fun w h => List.mem_cons_of_mem _ (hin_Rows w h)) hown hK hP 0 rfl rfl 2 (by decide) (hts _ (List.mem_cons_of_mem _ fl_Rows_19)) (fun _ h => h) rfl d_Rows_put_5 ?_
  refine lv_iload_n hx hb d_Rows_put_8 rfl (lv_at hl 1 rfl) ?_
  refine zk_nald hx hb hK hP 2 0 rfl rfl (by omega) (by omega) d_Rows_put_9 ?_
  refine lv_aload_n hx hb d_Rows_put_10 rfl (lv_at hl 0 rfl) ?_
  refine va_get (C := R_Rows) (T := F_Rows) (N := 5) hx hb hts (fun w h => List.mem_cons_of_mem _ (hin_Rows w h)) hown hK hP 0 rfl rfl 0 (by decide) (hts _ (List.mem_cons_of_mem _ fl_Rows_9)) (fun _ h => h) rfl d_Rows_put_11 ?_
  refine lv_imul hx hb d_Rows_put_14 ?_
  refine zk_topi (show (nI (g i)) * (nI k) = nI ((g i) * k) from pk_mul (g i) k) ?_
  refine lv_iload_n hx hb d_Rows_put_15 rfl (lv_at hl 2 rfl) ?_
  refine lv_iadd hx hb d_Rows_put_16 ?_
  refine zk_topi (show (nI ((g i) * k)) + (nI j) = nI ((g i) * k + j) from nI_add ((g i) * k) j) ?_
  refine lv_lload_n hx hb d_Rows_put_17 rfl (lv_at hl 3 rfl) ?_
  refine zk_last hx hb hK hP hD hS 1 1 rfl rfl (hj) (by omega) d_Rows_put_18 (fun H locs hP hD hS => ?_)
  have hP : va_P D vwCl [(r, .inr (0, [.int (nI k), .ref v, .ref a, .ref b, .int (nI n)])), (v, .inl (cL, nv, .inr (.inl (vp_updL f ((g i) * k + j) x)))), (a, .inl (cI, ns, .inl (zN g))), (b, .inl (cI, ns, .inl (zN h)))] H := hP
  have hD : va_D A [(r, .inr (0, [.int (nI k), .ref v, .ref a, .ref b, .int (nI n)])), (v, .inl (cL, nv, .inr (.inl (vp_updL f ((g i) * k + j) x)))), (a, .inl (cI, ns, .inl (zN g))), (b, .inl (cI, ns, .inl (zN h)))] := hD
  exact zk_vretW hx hb hr hlk hAe hQ hK (()) (trivial) hP hD hS d_Rows_put_19
set_option maxHeartbeats 4000000 in
set_option maxRecDepth 100000 in
theorem c_Rows_copyCells (l : Launch) (D : va_G) (cI cL cZ cW cR : ClassId) (sz : Nat) (r v a b k n nv ns : Nat) (f : Nat → Int64) (g h : Nat → Nat) (r2 v2 a2 b2 k2 n2 nv2 ns2 : Nat) (f2 : Nat → Int64) (g2 h2 : Nat → Nat) (j c0 j2 q : Nat) (hj : j < ns) (hns : ns < 1000) (hc : g j * k + c0 + q ≤ nv) (hnv : nv < 100000) (hj2 : j2 < ns2) (hns2 : ns2 < 1000) (hc2 : g2 j2 * k2 + q ≤ nv2) (hnv2 : nv2 < 100000) (hq : q < 1000) : Met l y_Rows_copyCells ws_Rows_copyCells rm1_30 (zPw D vwCl (zT cI cL cZ cW cR) [(r, .inr (0, [.int (nI k), .ref v, .ref a, .ref b, .int (nI n)])), (v, .inl (cL, nv, .inr (.inl f))), (a, .inl (cI, ns, .inl (zN g))), (b, .inl (cI, ns, .inl (zN h))), (r2, .inr (0, [.int (nI k2), .ref v2, .ref a2, .ref b2, .int (nI n2)])), (v2, .inl (cL, nv2, .inr (.inl f2))), (a2, .inl (cI, ns2, .inl (zN g2))), (b2, .inl (cI, ns2, .inl (zN h2)))] sz [.ref r, .int (nI j), .int (nI c0), .ref r2, .int (nI j2), .int (nI q)]) (zQv D vwCl (zT cI cL cZ cW cR) [(r, .inr (0, [.int (nI k), .ref v, .ref a, .ref b, .int (nI n)])), (v, .inl (cL, nv, .inr (.inl f))), (a, .inl (cI, ns, .inl (zN g))), (b, .inl (cI, ns, .inl (zN h))), (r2, .inr (0, [.int (nI k2), .ref v2, .ref a2, .ref b2, .int (nI n2)])), (v2, .inl (cL, nv2, .inr (.inl f2))), (a2, .inl (cI, ns2, .inl (zN g2))), (b2, .inl (cI, ns2, .inl (zN h2)))] sz (fun _ : Unit => True) (fun _ => [(r, .inr (0, [.int (nI k), .ref v, .ref a, .ref b, .int (nI n)])), (v, .inl (cL, nv, .inr (.inl (va_cpy f2 f (g2 j2 * k2) (g j * k + c0) q)))), (a, .inl (cI, ns, .inl (zN g))), (b, .inl (cI, ns, .inl (zN h))), (r2, .inr (0, [.int (nI k2), .ref v2, .ref a2, .ref b2, .int (nI n2)])), (v2, .inl (cL, nv2, .inr (.inl f2))), (a2, .inl (cI, ns2, .inl (zN g2))), (b2, .inl (cI, ns2, .inl (zN h2)))])) 0 0 (va_A [(r, .inr (0, [.int (nI k), .ref v, .ref a, .ref b, .int (nI n)])), (v, .inl (cL, nv, .inr (.inl f))), (a, .inl (cI, ns, .inl (zN g))), (b, .inl (cI, ns, .inl (zN h))), (r2, .inr (0, [.int (nI k2), .ref v2, .ref a2, .ref b2, .int (nI n2)])), (v2, .inl (cL, nv2, .inr (.inl f2))), (a2, .inl (cI, ns2, .inl (zN g2))), (b2, .inl (cI, ns2, .inl (zN h2)))] sz) := by
  refine zk_enterW (cc := b_Rows_copyCells) (maxL := 7) (ret := none) (by decide) rfl (Nat.le_of_ble_eq_true rfl) ?_
  intro p e s m args below meth c ls Q hx hb hml hr hlk hown hts hP hK hN hl hin hsz A hAe hA hD hS hQ
  subst hsz
  have hl : lv_has ls 7 [(0, .ref r), (1, .int (nI j)), (2, .int (nI c0)), (3, .ref r2), (4, .int (nI j2)), (5, .int (nI q))] := hl
  refine lv_iconst (v := nI 0) hx hb d_Rows_copyCells_0 (by decide) ?_
  refine lv_istore (lv' := [(6, .int (nI 0)), (0, .ref r), (1, .int (nI j)), (2, .int (nI c0)), (3, .ref r2), (4, .int (nI j2)), (5, .int (nI q))]) hx hb d_Rows_copyCells_1 hl (by decide) rfl (fun ls hl => ?_)
  have lb3 : ∀ (fuel : Nat) (i : Nat), i ≤ q → q - i < fuel → ∀ (ls : Array Slot) (H : Heap) (locs : List Loc), lv_has ls 7 [(0, .ref r), (1, .int (nI j)), (2, .int (nI c0)), (3, .ref r2), (4, .int (nI j2)), (5, .int (nI q)), (6, .int (nI i))] → va_P D vwCl [(r, .inr (0, [.int (nI k), .ref v, .ref a, .ref b, .int (nI n)])), (v, .inl (cL, nv, .inr (.inl (va_cpy f2 f (g2 j2 * k2) (g j * k + c0) i)))), (a, .inl (cI, ns, .inl (zN g))), (b, .inl (cI, ns, .inl (zN h))), (r2, .inr (0, [.int (nI k2), .ref v2, .ref a2, .ref b2, .int (nI n2)])), (v2, .inl (cL, nv2, .inr (.inl f2))), (a2, .inl (cI, ns2, .inl (zN g2))), (b2, .inl (cI, ns2, .inl (zN h2)))] H → va_D A [(r, .inr (0, [.int (nI k), .ref v, .ref a, .ref b, .int (nI n)])), (v, .inl (cL, nv, .inr (.inl (va_cpy f2 f (g2 j2 * k2) (g j * k + c0) i)))), (a, .inl (cI, ns, .inl (zN g))), (b, .inl (cI, ns, .inl (zN h))), (r2, .inr (0, [.int (nI k2), .ref v2, .ref a2, .ref b2, .int (nI n2)])), (v2, .inl (cL, nv2, .inr (.inl f2))), (a2, .inl (cI, ns2, .inl (zN g2))), (b2, .inl (cI, ns2, .inl (zN h2)))] → va_S A s.heap H locs → W p l e rm1_30 s m args below meth c H locs 0 0 Q (F0 m 3 ls []) := by
    intro fuel
    induction fuel with
    | zero => intro i hi hfu; exact absurd hfu (Nat.not_lt_zero _)
    | succ fuel ih =>
      intro i hi hfu ls H locs hl hP hD hS
      refine lv_iload hx hb d_Rows_copyCells_3 (lv_at hl 6 rfl) ?_
      refine lv_iload hx hb d_Rows_copyCells_5 (lv_at hl 5 rfl) ?_
      refine zk_icmp_ge (tgt := 33) hx hb d_Rows_copyCells_7 rfl (by omega) (by omega) (fun h7 => ?_) (fun h7 => ?_)
      · skip
        obtain rfl : i = q := by omega
        exact zk_vretW hx hb hr hlk hAe hQ hK (()) (trivial) hP hD hS d_Rows_copyCells_33
      · skip
        refine lv_aload_n hx hb d_Rows_copyCells_10 rfl (lv_at hl 0 rfl) ?_
        refine lv_iload_n hx hb d_Rows_copyCells_11 rfl (lv_at hl 1 rfl) ?_
        refine lv_iload_n hx hb d_Rows_copyCells_12 rfl (lv_at hl 2 rfl) ?_
        refine lv_iload hx hb d_Rows_copyCells_13 (lv_at hl 6 rfl) ?_
        refine lv_iadd hx hb d_Rows_copyCells_15 ?_
        refine zk_topi (show (nI c0) + (nI i) = nI (c0 + i) from nI_add c0 i) ?_
        refine lv_aload_n hx hb d_Rows_copyCells_16 rfl (lv_at hl 3 rfl) ?_
        refine lv_iload hx hb d_Rows_copyCells_17 (lv_at hl 4 rfl) ?_
        refine lv_iload hx hb d_Rows_copyCells_19 (lv_at hl 6 rfl) ?_
        have hPc := hP.sub (ws' := [(r2, .inr (0, [.int (nI k2), .ref v2, .ref a2, .ref b2, .int (nI n2)])), (v2, .inl (cL, nv2, .inr (.inl f2))), (a2, .inl (cI, ns2, .inl (zN g2))), (b2, .inl (cI, ns2, .inl (zN h2)))]) [4, 5, 6, 7] rfl
        refine zk_rl (va_runV (As := [.int (nI j2), .int (nI i)]) (rest := [.int (nI (c0 + i)), .int (nI j), .ref r]) ⟨hx, hb, hml, hown, hts⟩ (c_Rows_at l D cI cL cZ cW cR r2 v2 a2 b2 k2 n2 nv2 ns2 f2 g2 h2 j2 i (hj2) (hns2) (by omega) (hnv2)) (cwV 2 hts (zk_gV (fun _ h => List.mem_cons_of_mem _ h) ml_Rows_29 im_Rows_at se_Rows_at in_Rows co_Rows_at) rfl rfl rfl ⟨rfl, hd_Rows_at⟩ ⟨Nat.le_of_ble_eq_true rfl, Nat.le_of_ble_eq_true rfl⟩) (zk_vr (q0 := 0) hN hK hPc rfl rfl) rfl rfl hl.1 rfl (lv_room (Nat.le_of_ble_eq_true rfl)) d_Rows_copyCells_21 ⟨Nat.zero_le _, Nat.zero_le _⟩) ?_
        have hPc := hP.sub (ws' := [(r, .inr (0, [.int (nI k), .ref v, .ref a, .ref b, .int (nI n)])), (v, .inl (cL, nv, .inr (.inl (va_cpy f2 f (g2 j2 * k2) (g j * k + c0) i)))), (a, .inl (cI, ns, .inl (zN g))), (b, .inl (cI, ns, .inl (zN h)))]) [0, 1, 2, 3] rfl
        have hDc := hD.sub (ws' := [(r, .inr (0, [.int (nI k), .ref v, .ref a, .ref b, .int (nI n)])), (v, .inl (cL, nv, .inr (.inl (va_cpy f2 f (g2 j2 * k2) (g j * k + c0) i)))), (a, .inl (cI, ns, .inl (zN g))), (b, .inl (cI, ns, .inl (zN h)))]) [0, 1, 2, 3] (by decide) rfl
        refine zk_wv (wr := [(r2, .inr (0, [.int (nI k2), .ref v2, .ref a2, .ref b2, .int (nI n2)])), (v2, .inl (cL, nv2, .inr (.inl f2))), (a2, .inl (cI, ns2, .inl (zN g2))), (b2, .inl (cI, ns2, .inl (zN h2)))]) (w2 := (fun _ => [(r, .inr (0, [.int (nI k), .ref v, .ref a, .ref b, .int (nI n)])), (v, .inl (cL, nv, .inr (.inl (vp_updL (va_cpy f2 f (g2 j2 * k2) (g j * k + c0) i) (g j * k + (c0 + i)) (f2 (g2 j2 * k2 + i)))))), (a, .inl (cI, ns, .inl (zN g))), (b, .inl (cI, ns, .inl (zN h))), (r2, .inr (0, [.int (nI k2), .ref v2, .ref a2, .ref b2, .int (nI n2)])), (v2, .inl (cL, nv2, .inr (.inl f2))), (a2, .inl (cI, ns2, .inl (zN g2))), (b2, .inl (cI, ns2, .inl (zN h2)))])) hP hD hS hA [0, 1, 2, 3] [4, 5, 6, 7] [4, 5, 6, 7, 0, 1, 2, 3] rfl rfl (by decide) (by decide) (fun _ => rfl) (by decide) (va_runV (As := [.int (nI j), .int (nI (c0 + i)), .long (f2 (g2 j2 * k2 + i))]) (rest := []) ⟨hx, hb, hml, hown, hts⟩ (c_Rows_put l D cI cL cZ cW cR _ r v a b k n nv ns (va_cpy f2 f (g2 j2 * k2) (g j * k + c0) i) g h j (c0 + i) (f2 (g2 j2 * k2 + i)) (hj) (hns) (by omega) (hnv)) (cwV 3 hts (zk_gV (fun _ h => List.mem_cons_of_mem _ h) ml_Rows_33 im_Rows_put se_Rows_put in_Rows co_Rows_put) rfl rfl rfl ⟨rfl, hd_Rows_put⟩ ⟨Nat.le_of_ble_eq_true rfl, Nat.le_of_ble_eq_true rfl⟩) (zk_vw (q0 := 0) hN hK hPc hDc rfl rfl) rfl rfl hl.1 rfl (lv_room (Nat.le_of_ble_eq_true rfl)) d_Rows_copyCells_24 ⟨Nat.zero_le _, Nat.zero_le _⟩) (fun u H locs hpost hP hD hS => ?_)
        have hP : va_P D vwCl [(r, .inr (0, [.int (nI k), .ref v, .ref a, .ref b, .int (nI n)])), (v, .inl (cL, nv, .inr (.inl (vp_updL (va_cpy f2 f (g2 j2 * k2) (g j * k + c0) i) (g j * k + (c0 + i)) (f2 (g2 j2 * k2 + i)))))), (a, .inl (cI, ns, .inl (zN g))), (b, .inl (cI, ns, .inl (zN h))), (r2, .inr (0, [.int (nI k2), .ref v2, .ref a2, .ref b2, .int (nI n2)])), (v2, .inl (cL, nv2, .inr (.inl f2))), (a2, .inl (cI, ns2, .inl (zN g2))), (b2, .inl (cI, ns2, .inl (zN h2)))] H := hP
        have hD : va_D A [(r, .inr (0, [.int (nI k), .ref v, .ref a, .ref b, .int (nI n)])), (v, .inl (cL, nv, .inr (.inl (vp_updL (va_cpy f2 f (g2 j2 * k2) (g j * k + c0) i) (g j * k + (c0 + i)) (f2 (g2 j2 * k2 + i)))))), (a, .inl (cI, ns, .inl (zN g))), (b, .inl (cI, ns, .inl (zN h))), (r2, .inr (0, [.int (nI k2), .ref v2, .ref a2, .ref b2, .int (nI n2)])), (v2, .inl (cL, nv2, .inr (.inl f2))), (a2, .inl (cI, ns2, .inl (zN g2))), (b2, .inl (cI, ns2, .inl (zN h2)))] := hD
        refine lv_iinc (k := 6) (v := nI (i + 1)) (lv' := [(6, .int (nI (i + 1))), (0, .ref r), (1, .int (nI j)), (2, .int (nI c0)), (3, .ref r2), (4, .int (nI j2)), (5, .int (nI q))]) hx hb d_Rows_copyCells_27 hl rfl (nI_add i 1) (by decide) rfl (fun ls hl => ?_)
        refine lv_goto (tgt := 3) hx hb d_Rows_copyCells_30 rfl ?_
        have hP : va_P D vwCl [(r, .inr (0, [.int (nI k), .ref v, .ref a, .ref b, .int (nI n)])), (v, .inl (cL, nv, .inr (.inl (va_cpy f2 f (g2 j2 * k2) (g j * k + c0) (i + 1))))), (a, .inl (cI, ns, .inl (zN g))), (b, .inl (cI, ns, .inl (zN h))), (r2, .inr (0, [.int (nI k2), .ref v2, .ref a2, .ref b2, .int (nI n2)])), (v2, .inl (cL, nv2, .inr (.inl f2))), (a2, .inl (cI, ns2, .inl (zN g2))), (b2, .inl (cI, ns2, .inl (zN h2)))] H := by rw [← zk_cpyS, Nat.add_assoc]; exact hP
        have hD : va_D A [(r, .inr (0, [.int (nI k), .ref v, .ref a, .ref b, .int (nI n)])), (v, .inl (cL, nv, .inr (.inl (va_cpy f2 f (g2 j2 * k2) (g j * k + c0) (i + 1))))), (a, .inl (cI, ns, .inl (zN g))), (b, .inl (cI, ns, .inl (zN h))), (r2, .inr (0, [.int (nI k2), .ref v2, .ref a2, .ref b2, .int (nI n2)])), (v2, .inl (cL, nv2, .inr (.inl f2))), (a2, .inl (cI, ns2, .inl (zN g2))), (b2, .inl (cI, ns2, .inl (zN h2)))] := by rw [← zk_cpyS, Nat.add_assoc]; exact hD
        exact ih (i + 1) (by omega) (by omega) ls _ _ (lv_sub hl [1, 2, 3, 4, 5, 6, 0] rfl) hP hD hS
  have hP : va_P D vwCl [(r, .inr (0, [.int (nI k), .ref v, .ref a, .ref b, .int (nI n)])), (v, .inl (cL, nv, .inr (.inl (va_cpy f2 f (g2 j2 * k2) (g j * k + c0) 0)))), (a, .inl (cI, ns, .inl (zN g))), (b, .inl (cI, ns, .inl (zN h))), (r2, .inr (0, [.int (nI k2), .ref v2, .ref a2, .ref b2, .int (nI n2)])), (v2, .inl (cL, nv2, .inr (.inl f2))), (a2, .inl (cI, ns2, .inl (zN g2))), (b2, .inl (cI, ns2, .inl (zN h2)))] s.heap := by rw [zk_cpy0]; exact hP
  have hD : va_D A [(r, .inr (0, [.int (nI k), .ref v, .ref a, .ref b, .int (nI n)])), (v, .inl (cL, nv, .inr (.inl (va_cpy f2 f (g2 j2 * k2) (g j * k + c0) 0)))), (a, .inl (cI, ns, .inl (zN g))), (b, .inl (cI, ns, .inl (zN h))), (r2, .inr (0, [.int (nI k2), .ref v2, .ref a2, .ref b2, .int (nI n2)])), (v2, .inl (cL, nv2, .inr (.inl f2))), (a2, .inl (cI, ns2, .inl (zN g2))), (b2, .inl (cI, ns2, .inl (zN h2)))] := by rw [zk_cpy0]; exact hD
  exact lb3 _ 0 (Nat.zero_le _) (Nat.lt_succ_self _) ls _ _ (lv_sub hl [1, 2, 3, 4, 5, 6, 0] rfl) hP hD hS
set_option maxHeartbeats 4000000 in
set_option maxRecDepth 100000 in
theorem c_Rows_fillCells (l : Launch) (D : va_G) (cI cL cZ cW cR : ClassId) (sz : Nat) (r v a b k n nv ns : Nat) (f : Nat → Int64) (g h : Nat → Nat) (j c0 q : Nat) (x : Int64) (hj : j < ns) (hns : ns < 1000) (hc : g j * k + c0 + q ≤ nv) (hnv : nv < 100000) (hq : q < 1000) : Met l y_Rows_fillCells ws_Rows_fillCells rm1_30 (zPw D vwCl (zT cI cL cZ cW cR) [(r, .inr (0, [.int (nI k), .ref v, .ref a, .ref b, .int (nI n)])), (v, .inl (cL, nv, .inr (.inl f))), (a, .inl (cI, ns, .inl (zN g))), (b, .inl (cI, ns, .inl (zN h)))] sz [.ref r, .int (nI j), .int (nI c0), .int (nI q), .long x]) (zQv D vwCl (zT cI cL cZ cW cR) [(r, .inr (0, [.int (nI k), .ref v, .ref a, .ref b, .int (nI n)])), (v, .inl (cL, nv, .inr (.inl f))), (a, .inl (cI, ns, .inl (zN g))), (b, .inl (cI, ns, .inl (zN h)))] sz (fun _ : Unit => True) (fun _ => [(r, .inr (0, [.int (nI k), .ref v, .ref a, .ref b, .int (nI n)])), (v, .inl (cL, nv, .inr (.inl (va_cpy (fun _ => x) f 0 (g j * k + c0) q)))), (a, .inl (cI, ns, .inl (zN g))), (b, .inl (cI, ns, .inl (zN h)))])) 0 0 (va_A [(r, .inr (0, [.int (nI k), .ref v, .ref a, .ref b, .int (nI n)])), (v, .inl (cL, nv, .inr (.inl f))), (a, .inl (cI, ns, .inl (zN g))), (b, .inl (cI, ns, .inl (zN h)))] sz) := by
  refine zk_enterW (cc := b_Rows_fillCells) (maxL := 7) (ret := none) (by decide) rfl (Nat.le_of_ble_eq_true rfl) ?_
  intro p e s m args below meth c ls Q hx hb hml hr hlk hown hts hP hK hN hl hin hsz A hAe hA hD hS hQ
  subst hsz
  have hl : lv_has ls 7 [(0, .ref r), (1, .int (nI j)), (2, .int (nI c0)), (3, .int (nI q)), (4, .long x)] := hl
  refine lv_iconst (v := nI 0) hx hb d_Rows_fillCells_0 (by decide) ?_
  refine lv_istore (lv' := [(6, .int (nI 0)), (0, .ref r), (1, .int (nI j)), (2, .int (nI c0)), (3, .int (nI q)), (4, .long x)]) hx hb d_Rows_fillCells_1 hl (by decide) rfl (fun ls hl => ?_)
  have lb3 : ∀ (fuel : Nat) (i : Nat), i ≤ q → q - i < fuel → ∀ (ls : Array Slot) (H : Heap) (locs : List Loc), lv_has ls 7 [(0, .ref r), (1, .int (nI j)), (2, .int (nI c0)), (3, .int (nI q)), (4, .long x), (6, .int (nI i))] → va_P D vwCl [(r, .inr (0, [.int (nI k), .ref v, .ref a, .ref b, .int (nI n)])), (v, .inl (cL, nv, .inr (.inl (va_cpy (fun _ => x) f 0 (g j * k + c0) i)))), (a, .inl (cI, ns, .inl (zN g))), (b, .inl (cI, ns, .inl (zN h)))] H → va_D A [(r, .inr (0, [.int (nI k), .ref v, .ref a, .ref b, .int (nI n)])), (v, .inl (cL, nv, .inr (.inl (va_cpy (fun _ => x) f 0 (g j * k + c0) i)))), (a, .inl (cI, ns, .inl (zN g))), (b, .inl (cI, ns, .inl (zN h)))] → va_S A s.heap H locs → W p l e rm1_30 s m args below meth c H locs 0 0 Q (F0 m 3 ls []) := by
    intro fuel
    induction fuel with
    | zero => intro i hi hfu; exact absurd hfu (Nat.not_lt_zero _)
    | succ fuel ih =>
      intro i hi hfu ls H locs hl hP hD hS
      refine lv_iload hx hb d_Rows_fillCells_3 (lv_at hl 5 rfl) ?_
      refine lv_iload_n hx hb d_Rows_fillCells_5 rfl (lv_at hl 3 rfl) ?_
      refine zk_icmp_ge (tgt := 26) hx hb d_Rows_fillCells_6 rfl (by omega) (by omega) (fun h6 => ?_) (fun h6 => ?_)
      · skip
        obtain rfl : i = q := by omega
        exact zk_vretW hx hb hr hlk hAe hQ hK (()) (trivial) hP hD hS d_Rows_fillCells_26
      · skip
        refine lv_aload_n hx hb d_Rows_fillCells_9 rfl (lv_at hl 0 rfl) ?_
        refine lv_iload_n hx hb d_Rows_fillCells_10 rfl (lv_at hl 1 rfl) ?_
        refine lv_iload_n hx hb d_Rows_fillCells_11 rfl (lv_at hl 2 rfl) ?_
        refine lv_iload hx hb d_Rows_fillCells_12 (lv_at hl 5 rfl) ?_
        refine lv_iadd hx hb d_Rows_fillCells_14 ?_
        refine zk_topi (show (nI c0) + (nI i) = nI (c0 + i) from nI_add c0 i) ?_
        refine lv_lload hx hb d_Rows_fillCells_15 (lv_at hl 4 rfl) ?_
        have hPc := hP.sub (ws' := [(r, .inr (0, [.int (nI k), .ref v, .ref a, .ref b, .int (nI n)])), (v, .inl (cL, nv, .inr (.inl (va_cpy (fun _ => x) f 0 (g j * k + c0) i)))), (a, .inl (cI, ns, .inl (zN g))), (b, .inl (cI, ns, .inl (zN h)))]) [0, 1, 2, 3] rfl
        have hDc := hD.sub (ws' := [(r, .inr (0, [.int (nI k), .ref v, .ref a, .ref b, .int (nI n)])), (v, .inl (cL, nv, .inr (.inl (va_cpy (fun _ => x) f 0 (g j * k + c0) i)))), (a, .inl (cI, ns, .inl (zN g))), (b, .inl (cI, ns, .inl (zN h)))]) [0, 1, 2, 3] (by decide) rfl
        refine zk_wv (wr := []) (w2 := (fun _ => [(r, .inr (0, [.int (nI k), .ref v, .ref a, .ref b, .int (nI n)])), (v, .inl (cL, nv, .inr (.inl (vp_updL (va_cpy (fun _ => x) f 0 (g j * k + c0) i) (g j * k + (c0 + i)) x)))), (a, .inl (cI, ns, .inl (zN g))), (b, .inl (cI, ns, .inl (zN h)))])) hP hD hS hA [0, 1, 2, 3] [] [0, 1, 2, 3] rfl rfl (by decide) (by decide) (fun _ => rfl) (by decide) (va_runV (As := [.int (nI j), .int (nI (c0 + i)), .long x]) (rest := []) ⟨hx, hb, hml, hown, hts⟩ (c_Rows_put l D cI cL cZ cW cR _ r v a b k n nv ns (va_cpy (fun _ => x) f 0 (g j * k + c0) i) g h j (c0 + i) x (hj) (hns) (by omega) (hnv)) (cwV 3 hts (zk_gV (fun _ h => List.mem_cons_of_mem _ h) ml_Rows_33 im_Rows_put se_Rows_put in_Rows co_Rows_put) rfl rfl rfl ⟨rfl, hd_Rows_put⟩ ⟨Nat.le_of_ble_eq_true rfl, Nat.le_of_ble_eq_true rfl⟩) (zk_vw (q0 := 0) hN hK hPc hDc rfl rfl) rfl rfl hl.1 rfl (lv_room (Nat.le_of_ble_eq_true rfl)) d_Rows_fillCells_17 ⟨Nat.zero_le _, Nat.zero_le _⟩) (fun u H locs hpost hP hD hS => ?_)
        have hP : va_P D vwCl [(r, .inr (0, [.int (nI k), .ref v, .ref a, .ref b, .int (nI n)])), (v, .inl (cL, nv, .inr (.inl (vp_updL (va_cpy (fun _ => x) f 0 (g j * k + c0) i) (g j * k + (c0 + i)) x)))), (a, .inl (cI, ns, .inl (zN g))), (b, .inl (cI, ns, .inl (zN h)))] H := hP
        have hD : va_D A [(r, .inr (0, [.int (nI k), .ref v, .ref a, .ref b, .int (nI n)])), (v, .inl (cL, nv, .inr (.inl (vp_updL (va_cpy (fun _ => x) f 0 (g j * k + c0) i) (g j * k + (c0 + i)) x)))), (a, .inl (cI, ns, .inl (zN g))), (b, .inl (cI, ns, .inl (zN h)))] := hD
        refine lv_iinc (k := 5) (v := nI (i + 1)) (lv' := [(6, .int (nI (i + 1))), (0, .ref r), (1, .int (nI j)), (2, .int (nI c0)), (3, .int (nI q)), (4, .long x)]) hx hb d_Rows_fillCells_20 hl rfl (nI_add i 1) (by decide) rfl (fun ls hl => ?_)
        refine lv_goto (tgt := 3) hx hb d_Rows_fillCells_23 rfl ?_
        have hP : va_P D vwCl [(r, .inr (0, [.int (nI k), .ref v, .ref a, .ref b, .int (nI n)])), (v, .inl (cL, nv, .inr (.inl (va_cpy (fun _ => x) f 0 (g j * k + c0) (i + 1))))), (a, .inl (cI, ns, .inl (zN g))), (b, .inl (cI, ns, .inl (zN h)))] H := by rw [← zk_cpyS, Nat.add_assoc]; exact hP
        have hD : va_D A [(r, .inr (0, [.int (nI k), .ref v, .ref a, .ref b, .int (nI n)])), (v, .inl (cL, nv, .inr (.inl (va_cpy (fun _ => x) f 0 (g j * k + c0) (i + 1))))), (a, .inl (cI, ns, .inl (zN g))), (b, .inl (cI, ns, .inl (zN h)))] := by rw [← zk_cpyS, Nat.add_assoc]; exact hD
        exact ih (i + 1) (by omega) (by omega) ls _ _ (lv_sub hl [1, 2, 3, 4, 5, 0] rfl) hP hD hS
  have hP : va_P D vwCl [(r, .inr (0, [.int (nI k), .ref v, .ref a, .ref b, .int (nI n)])), (v, .inl (cL, nv, .inr (.inl (va_cpy (fun _ => x) f 0 (g j * k + c0) 0)))), (a, .inl (cI, ns, .inl (zN g))), (b, .inl (cI, ns, .inl (zN h)))] s.heap := by rw [zk_cpy0]; exact hP
  have hD : va_D A [(r, .inr (0, [.int (nI k), .ref v, .ref a, .ref b, .int (nI n)])), (v, .inl (cL, nv, .inr (.inl (va_cpy (fun _ => x) f 0 (g j * k + c0) 0)))), (a, .inl (cI, ns, .inl (zN g))), (b, .inl (cI, ns, .inl (zN h)))] := by rw [zk_cpy0]; exact hD
  exact lb3 _ 0 (Nat.zero_le _) (Nat.lt_succ_self _) ls _ _ (lv_sub hl [1, 2, 3, 4, 5, 0] rfl) hP hD hS
