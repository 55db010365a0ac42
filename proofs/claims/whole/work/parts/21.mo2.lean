def pass9 (op : Nat) (is : Bool) (v x : Int32) : Bool := match op with
  | 0 => is && decide (v < x)
  | 1 => is && decide (v = x)
  | 2 => is && decide (x < v)
  | 3 => !is
  | _ => is
theorem oI_in {o : Option Nat} (h : ∀ q, o = some q → q < 6) : ¬ (oI o < (-1 : Int32) ∨ nI 5 < oI o) := by
  cases o with
  | none => decide
  | some q =>
    have := h q rfl
    rintro (z | z)
    · rw [Int32.lt_iff_toInt_lt] at z
      have h1 : (oI (some q)).toInt = q := nI_toInt (by omega)
      have h2 : (-1 : Int32).toInt = -1 := by decide
      omega
    · exact nI_nlt (by omega) (by omega) z
theorem th_yes {x y : Int32} {sh : Nat} (hsh : sh ≤ 60) (h1 : ¬ x < 0) (h2 : x < nI sh) (h3 : ¬ y < 0) (h4 : y ≤ nI 8) : (∃ i, i < sh ∧ x = nI i) ∧ ∃ j, j < 9 ∧ y = nI j := by
  obtain ⟨i, hi, rfl⟩ := nI_of h1
  obtain ⟨j, hj, rfl⟩ := nI_of h3
  have h5 := (nI_ltI hi (by omega)).mp h2
  have h6 := (nI_leI hj (by decide)).mp h4
  exact ⟨⟨i, h5, rfl⟩, ⟨j, by omega, rfl⟩⟩
theorem th_no {x y : Int32} {sh : Nat} (hsh : sh ≤ 60) (h : (∃ i, i < sh ∧ x = nI i) ∧ ∃ j, j < 9 ∧ y = nI j) (k : ¬ x < 0 → x < nI sh → ¬ y < 0 → y ≤ nI 8 → False) : False := by
  obtain ⟨⟨i, hi, rfl⟩, ⟨j, hj, rfl⟩⟩ := h
  exact k (nI_pos (by omega)) (nI_lt hi (by omega)) (nI_pos (by omega)) (nI_le (by omega) (by decide))
theorem d_Mo_insert_0 : decode b_Mo_insert 0 = .ok (.iload_n 1, 1) := by decide +kernel
theorem d_Mo_insert_1 : decode b_Mo_insert 1 = .ok (.iconst 0, 1) := by decide +kernel
theorem d_Mo_insert_2 : decode b_Mo_insert 2 = .ok (.iconst 1, 1) := by decide +kernel
theorem d_Mo_insert_3 : decode b_Mo_insert 3 = .ok (.invokestatic 81, 3) := by decide +kernel
theorem d_Mo_insert_6 : decode b_Mo_insert 6 = .ok (.ifCond .ne 25, 3) := by decide +kernel
theorem d_Mo_insert_9 : decode b_Mo_insert 9 = .ok (.iload 5, 2) := by decide +kernel
theorem d_Mo_insert_11 : decode b_Mo_insert 11 = .ok (.iconst 0, 1) := by decide +kernel
theorem d_Mo_insert_12 : decode b_Mo_insert 12 = .ok (.bipush 7, 2) := by decide +kernel
theorem d_Mo_insert_14 : decode b_Mo_insert 14 = .ok (.invokestatic 81, 3) := by decide +kernel
theorem d_Mo_insert_17 : decode b_Mo_insert 17 = .ok (.ifCond .ne 14, 3) := by decide +kernel
theorem d_Mo_insert_20 : decode b_Mo_insert 20 = .ok (.aload_n 0, 1) := by decide +kernel
theorem d_Mo_insert_21 : decode b_Mo_insert 21 = .ok (.getfield 7, 3) := by decide +kernel
theorem d_Mo_insert_24 : decode b_Mo_insert 24 = .ok (.iload_n 1, 1) := by decide +kernel
theorem d_Mo_insert_25 : decode b_Mo_insert 25 = .ok (.iaload, 1) := by decide +kernel
theorem d_Mo_insert_26 : decode b_Mo_insert 26 = .ok (.bipush 24, 2) := by decide +kernel
theorem d_Mo_insert_28 : decode b_Mo_insert 28 = .ok (.if_icmp .lt 5, 3) := by decide +kernel
theorem d_Mo_insert_31 : decode b_Mo_insert 31 = .ok (.iconst 0, 1) := by decide +kernel
theorem d_Mo_insert_32 : decode b_Mo_insert 32 = .ok (.ireturn, 1) := by decide +kernel
theorem d_Mo_insert_33 : decode b_Mo_insert 33 = .ok (.bipush 72, 2) := by decide +kernel
theorem d_Mo_insert_35 : decode b_Mo_insert 35 = .ok (.iload_n 1, 1) := by decide +kernel
theorem d_Mo_insert_36 : decode b_Mo_insert 36 = .ok (.imul, 1) := by decide +kernel
theorem d_Mo_insert_37 : decode b_Mo_insert 37 = .ok (.iconst 3, 1) := by decide +kernel
theorem d_Mo_insert_38 : decode b_Mo_insert 38 = .ok (.aload_n 0, 1) := by decide +kernel
theorem d_Mo_insert_39 : decode b_Mo_insert 39 = .ok (.getfield 7, 3) := by decide +kernel
theorem d_Mo_insert_42 : decode b_Mo_insert 42 = .ok (.iload_n 1, 1) := by decide +kernel
theorem d_Mo_insert_43 : decode b_Mo_insert 43 = .ok (.iaload, 1) := by decide +kernel
theorem d_Mo_insert_44 : decode b_Mo_insert 44 = .ok (.imul, 1) := by decide +kernel
theorem d_Mo_insert_45 : decode b_Mo_insert 45 = .ok (.iadd, 1) := by decide +kernel
theorem d_Mo_insert_46 : decode b_Mo_insert 46 = .ok (.istore 6, 2) := by decide +kernel
theorem d_Mo_insert_48 : decode b_Mo_insert 48 = .ok (.aload_n 0, 1) := by decide +kernel
theorem d_Mo_insert_49 : decode b_Mo_insert 49 = .ok (.getfield 13, 3) := by decide +kernel
theorem d_Mo_insert_52 : decode b_Mo_insert 52 = .ok (.iload 6, 2) := by decide +kernel
theorem d_Mo_insert_54 : decode b_Mo_insert 54 = .ok (.iload_n 2, 1) := by decide +kernel
theorem d_Mo_insert_55 : decode b_Mo_insert 55 = .ok (.iastore, 1) := by decide +kernel
theorem d_Mo_insert_56 : decode b_Mo_insert 56 = .ok (.aload_n 0, 1) := by decide +kernel
theorem d_Mo_insert_57 : decode b_Mo_insert 57 = .ok (.getfield 13, 3) := by decide +kernel
theorem d_Mo_insert_60 : decode b_Mo_insert 60 = .ok (.iload 6, 2) := by decide +kernel
theorem d_Mo_insert_62 : decode b_Mo_insert 62 = .ok (.iconst 1, 1) := by decide +kernel
theorem d_Mo_insert_63 : decode b_Mo_insert 63 = .ok (.iadd, 1) := by decide +kernel
theorem d_Mo_insert_64 : decode b_Mo_insert 64 = .ok (.iload_n 3, 1) := by decide +kernel
theorem d_Mo_insert_65 : decode b_Mo_insert 65 = .ok (.iastore, 1) := by decide +kernel
theorem d_Mo_insert_66 : decode b_Mo_insert 66 = .ok (.aload_n 0, 1) := by decide +kernel
theorem d_Mo_insert_67 : decode b_Mo_insert 67 = .ok (.getfield 13, 3) := by decide +kernel
theorem d_Mo_insert_70 : decode b_Mo_insert 70 = .ok (.iload 6, 2) := by decide +kernel
theorem d_Mo_insert_72 : decode b_Mo_insert 72 = .ok (.iconst 2, 1) := by decide +kernel
theorem d_Mo_insert_73 : decode b_Mo_insert 73 = .ok (.iadd, 1) := by decide +kernel
theorem d_Mo_insert_74 : decode b_Mo_insert 74 = .ok (.iload 4, 2) := by decide +kernel
theorem d_Mo_insert_76 : decode b_Mo_insert 76 = .ok (.iastore, 1) := by decide +kernel
theorem d_Mo_insert_77 : decode b_Mo_insert 77 = .ok (.aload_n 0, 1) := by decide +kernel
theorem d_Mo_insert_78 : decode b_Mo_insert 78 = .ok (.getfield 16, 3) := by decide +kernel
theorem d_Mo_insert_81 : decode b_Mo_insert 81 = .ok (.bipush 24, 2) := by decide +kernel
theorem d_Mo_insert_83 : decode b_Mo_insert 83 = .ok (.iload_n 1, 1) := by decide +kernel
theorem d_Mo_insert_84 : decode b_Mo_insert 84 = .ok (.imul, 1) := by decide +kernel
theorem d_Mo_insert_85 : decode b_Mo_insert 85 = .ok (.aload_n 0, 1) := by decide +kernel
theorem d_Mo_insert_86 : decode b_Mo_insert 86 = .ok (.getfield 7, 3) := by decide +kernel
theorem d_Mo_insert_89 : decode b_Mo_insert 89 = .ok (.iload_n 1, 1) := by decide +kernel
theorem d_Mo_insert_90 : decode b_Mo_insert 90 = .ok (.iaload, 1) := by decide +kernel
theorem d_Mo_insert_91 : decode b_Mo_insert 91 = .ok (.iadd, 1) := by decide +kernel
theorem d_Mo_insert_92 : decode b_Mo_insert 92 = .ok (.iload 5, 2) := by decide +kernel
theorem d_Mo_insert_94 : decode b_Mo_insert 94 = .ok (.iastore, 1) := by decide +kernel
theorem d_Mo_insert_95 : decode b_Mo_insert 95 = .ok (.aload_n 0, 1) := by decide +kernel
theorem d_Mo_insert_96 : decode b_Mo_insert 96 = .ok (.getfield 7, 3) := by decide +kernel
theorem d_Mo_insert_99 : decode b_Mo_insert 99 = .ok (.iload_n 1, 1) := by decide +kernel
theorem d_Mo_insert_100 : decode b_Mo_insert 100 = .ok (.dup2, 1) := by decide +kernel
theorem d_Mo_insert_101 : decode b_Mo_insert 101 = .ok (.iaload, 1) := by decide +kernel
theorem d_Mo_insert_102 : decode b_Mo_insert 102 = .ok (.iconst 1, 1) := by decide +kernel
theorem d_Mo_insert_103 : decode b_Mo_insert 103 = .ok (.iadd, 1) := by decide +kernel
theorem d_Mo_insert_104 : decode b_Mo_insert 104 = .ok (.iastore, 1) := by decide +kernel
theorem d_Mo_insert_105 : decode b_Mo_insert 105 = .ok (.iconst 1, 1) := by decide +kernel
theorem d_Mo_insert_106 : decode b_Mo_insert 106 = .ok (.ireturn, 1) := by decide +kernel
theorem d_Mo_filter_0 : decode b_Mo_filter 0 = .ok (.iload_n 1, 1) := by decide +kernel
theorem d_Mo_filter_1 : decode b_Mo_filter 1 = .ok (.iconst 0, 1) := by decide +kernel
theorem d_Mo_filter_2 : decode b_Mo_filter 2 = .ok (.iconst 2, 1) := by decide +kernel
theorem d_Mo_filter_3 : decode b_Mo_filter 3 = .ok (.invokestatic 81, 3) := by decide +kernel
theorem d_Mo_filter_6 : decode b_Mo_filter 6 = .ok (.ifCond .ne 12, 3) := by decide +kernel
theorem d_Mo_filter_9 : decode b_Mo_filter 9 = .ok (.iload_n 2, 1) := by decide +kernel
theorem d_Mo_filter_10 : decode b_Mo_filter 10 = .ok (.iconst 0, 1) := by decide +kernel
theorem d_Mo_filter_11 : decode b_Mo_filter 11 = .ok (.iconst 4, 1) := by decide +kernel
theorem d_Mo_filter_12 : decode b_Mo_filter 12 = .ok (.invokestatic 81, 3) := by decide +kernel
theorem d_Mo_filter_15 : decode b_Mo_filter 15 = .ok (.ifCond .eq 5, 3) := by decide +kernel
theorem d_Mo_filter_18 : decode b_Mo_filter 18 = .ok (.iconst 0, 1) := by decide +kernel
theorem d_Mo_filter_19 : decode b_Mo_filter 19 = .ok (.ireturn, 1) := by decide +kernel
theorem d_Mo_filter_20 : decode b_Mo_filter 20 = .ok (.aload_n 0, 1) := by decide +kernel
theorem d_Mo_filter_21 : decode b_Mo_filter 21 = .ok (.iconst 1, 1) := by decide +kernel
theorem d_Mo_filter_22 : decode b_Mo_filter 22 = .ok (.putfield 85, 3) := by decide +kernel
theorem d_Mo_filter_25 : decode b_Mo_filter 25 = .ok (.aload_n 0, 1) := by decide +kernel
theorem d_Mo_filter_26 : decode b_Mo_filter 26 = .ok (.getfield 19, 3) := by decide +kernel
theorem d_Mo_filter_29 : decode b_Mo_filter 29 = .ok (.iconst 0, 1) := by decide +kernel
theorem d_Mo_filter_30 : decode b_Mo_filter 30 = .ok (.iload_n 1, 1) := by decide +kernel
theorem d_Mo_filter_31 : decode b_Mo_filter 31 = .ok (.iastore, 1) := by decide +kernel
theorem d_Mo_filter_32 : decode b_Mo_filter 32 = .ok (.aload_n 0, 1) := by decide +kernel
theorem d_Mo_filter_33 : decode b_Mo_filter 33 = .ok (.getfield 19, 3) := by decide +kernel
theorem d_Mo_filter_36 : decode b_Mo_filter 36 = .ok (.iconst 1, 1) := by decide +kernel
theorem d_Mo_filter_37 : decode b_Mo_filter 37 = .ok (.iload_n 2, 1) := by decide +kernel
theorem d_Mo_filter_38 : decode b_Mo_filter 38 = .ok (.iastore, 1) := by decide +kernel
theorem d_Mo_filter_39 : decode b_Mo_filter 39 = .ok (.aload_n 0, 1) := by decide +kernel
theorem d_Mo_filter_40 : decode b_Mo_filter 40 = .ok (.getfield 19, 3) := by decide +kernel
theorem d_Mo_filter_43 : decode b_Mo_filter 43 = .ok (.iconst 2, 1) := by decide +kernel
theorem d_Mo_filter_44 : decode b_Mo_filter 44 = .ok (.iload_n 3, 1) := by decide +kernel
theorem d_Mo_filter_45 : decode b_Mo_filter 45 = .ok (.iastore, 1) := by decide +kernel
theorem d_Mo_filter_46 : decode b_Mo_filter 46 = .ok (.iconst 1, 1) := by decide +kernel
theorem d_Mo_filter_47 : decode b_Mo_filter 47 = .ok (.ireturn, 1) := by decide +kernel
theorem d_Mo_join_0 : decode b_Mo_join 0 = .ok (.iload_n 1, 1) := by decide +kernel
theorem d_Mo_join_1 : decode b_Mo_join 1 = .ok (.iconst 0, 1) := by decide +kernel
theorem d_Mo_join_2 : decode b_Mo_join 2 = .ok (.iconst 2, 1) := by decide +kernel
theorem d_Mo_join_3 : decode b_Mo_join 3 = .ok (.invokestatic 81, 3) := by decide +kernel
theorem d_Mo_join_6 : decode b_Mo_join 6 = .ok (.ifCond .ne 12, 3) := by decide +kernel
theorem d_Mo_join_9 : decode b_Mo_join 9 = .ok (.iload_n 2, 1) := by decide +kernel
theorem d_Mo_join_10 : decode b_Mo_join 10 = .ok (.iconst 0, 1) := by decide +kernel
theorem d_Mo_join_11 : decode b_Mo_join 11 = .ok (.iconst 2, 1) := by decide +kernel
theorem d_Mo_join_12 : decode b_Mo_join 12 = .ok (.invokestatic 81, 3) := by decide +kernel
theorem d_Mo_join_15 : decode b_Mo_join 15 = .ok (.ifCond .eq 5, 3) := by decide +kernel
theorem d_Mo_join_18 : decode b_Mo_join 18 = .ok (.iconst 0, 1) := by decide +kernel
theorem d_Mo_join_19 : decode b_Mo_join 19 = .ok (.ireturn, 1) := by decide +kernel
theorem d_Mo_join_20 : decode b_Mo_join 20 = .ok (.aload_n 0, 1) := by decide +kernel
theorem d_Mo_join_21 : decode b_Mo_join 21 = .ok (.iconst 1, 1) := by decide +kernel
theorem d_Mo_join_22 : decode b_Mo_join 22 = .ok (.putfield 89, 3) := by decide +kernel
theorem d_Mo_join_25 : decode b_Mo_join 25 = .ok (.aload_n 0, 1) := by decide +kernel
theorem d_Mo_join_26 : decode b_Mo_join 26 = .ok (.iload_n 1, 1) := by decide +kernel
theorem d_Mo_join_27 : decode b_Mo_join 27 = .ok (.putfield 98, 3) := by decide +kernel
theorem d_Mo_join_30 : decode b_Mo_join 30 = .ok (.aload_n 0, 1) := by decide +kernel
theorem d_Mo_join_31 : decode b_Mo_join 31 = .ok (.iload_n 2, 1) := by decide +kernel
theorem d_Mo_join_32 : decode b_Mo_join 32 = .ok (.putfield 101, 3) := by decide +kernel
theorem d_Mo_join_35 : decode b_Mo_join 35 = .ok (.iconst 1, 1) := by decide +kernel
theorem d_Mo_join_36 : decode b_Mo_join 36 = .ok (.ireturn, 1) := by decide +kernel
theorem d_Mo_order_0 : decode b_Mo_order 0 = .ok (.iload_n 1, 1) := by decide +kernel
theorem d_Mo_order_1 : decode b_Mo_order 1 = .ok (.iconst 0, 1) := by decide +kernel
theorem d_Mo_order_2 : decode b_Mo_order 2 = .ok (.bipush 8, 2) := by decide +kernel
theorem d_Mo_order_4 : decode b_Mo_order 4 = .ok (.invokestatic 81, 3) := by decide +kernel
theorem d_Mo_order_7 : decode b_Mo_order 7 = .ok (.ifCond .eq 5, 3) := by decide +kernel
theorem d_Mo_order_10 : decode b_Mo_order 10 = .ok (.iconst 0, 1) := by decide +kernel
theorem d_Mo_order_11 : decode b_Mo_order 11 = .ok (.ireturn, 1) := by decide +kernel
theorem d_Mo_order_12 : decode b_Mo_order 12 = .ok (.aload_n 0, 1) := by decide +kernel
theorem d_Mo_order_13 : decode b_Mo_order 13 = .ok (.iconst 1, 1) := by decide +kernel
theorem d_Mo_order_14 : decode b_Mo_order 14 = .ok (.putfield 95, 3) := by decide +kernel
theorem d_Mo_order_17 : decode b_Mo_order 17 = .ok (.aload_n 0, 1) := by decide +kernel
theorem d_Mo_order_18 : decode b_Mo_order 18 = .ok (.iload_n 1, 1) := by decide +kernel
theorem d_Mo_order_19 : decode b_Mo_order 19 = .ok (.putfield 104, 3) := by decide +kernel
theorem d_Mo_order_22 : decode b_Mo_order 22 = .ok (.aload_n 0, 1) := by decide +kernel
theorem d_Mo_order_23 : decode b_Mo_order 23 = .ok (.iload_n 2, 1) := by decide +kernel
theorem d_Mo_order_24 : decode b_Mo_order 24 = .ok (.putfield 107, 3) := by decide +kernel
theorem d_Mo_order_27 : decode b_Mo_order 27 = .ok (.iconst 1, 1) := by decide +kernel
theorem d_Mo_order_28 : decode b_Mo_order 28 = .ok (.ireturn, 1) := by decide +kernel
theorem d_Mo_window_0 : decode b_Mo_window 0 = .ok (.iload_n 1, 1) := by decide +kernel
theorem d_Mo_window_1 : decode b_Mo_window 1 = .ok (.iconst 0, 1) := by decide +kernel
theorem d_Mo_window_2 : decode b_Mo_window 2 = .ok (.bipush 11, 2) := by decide +kernel
theorem d_Mo_window_4 : decode b_Mo_window 4 = .ok (.invokestatic 81, 3) := by decide +kernel
theorem d_Mo_window_7 : decode b_Mo_window 7 = .ok (.ifCond .ne 30, 3) := by decide +kernel
theorem d_Mo_window_10 : decode b_Mo_window 10 = .ok (.iload_n 2, 1) := by decide +kernel
theorem d_Mo_window_11 : decode b_Mo_window 11 = .ok (.iconst 0, 1) := by decide +kernel
theorem d_Mo_window_12 : decode b_Mo_window 12 = .ok (.iconst 5, 1) := by decide +kernel
theorem d_Mo_window_13 : decode b_Mo_window 13 = .ok (.invokestatic 81, 3) := by decide +kernel
theorem d_Mo_window_16 : decode b_Mo_window 16 = .ok (.ifCond .ne 21, 3) := by decide +kernel
theorem d_Mo_window_19 : decode b_Mo_window 19 = .ok (.iload_n 3, 1) := by decide +kernel
theorem d_Mo_window_20 : decode b_Mo_window 20 = .ok (.iconst 1, 1) := by decide +kernel
theorem d_Mo_window_21 : decode b_Mo_window 21 = .ok (.bipush 9, 2) := by decide +kernel
theorem d_Mo_window_23 : decode b_Mo_window 23 = .ok (.invokestatic 81, 3) := by decide +kernel
theorem d_Mo_window_26 : decode b_Mo_window 26 = .ok (.ifCond .ne 11, 3) := by decide +kernel
theorem d_Mo_window_29 : decode b_Mo_window 29 = .ok (.aload_n 0, 1) := by decide +kernel
theorem d_Mo_window_30 : decode b_Mo_window 30 = .ok (.getfield 92, 3) := by decide +kernel
theorem d_Mo_window_33 : decode b_Mo_window 33 = .ok (.iconst 3, 1) := by decide +kernel
theorem d_Mo_window_34 : decode b_Mo_window 34 = .ok (.if_icmp .lt 5, 3) := by decide +kernel
theorem d_Mo_window_37 : decode b_Mo_window 37 = .ok (.iconst (-1), 1) := by decide +kernel
theorem d_Mo_window_38 : decode b_Mo_window 38 = .ok (.ireturn, 1) := by decide +kernel
theorem d_Mo_window_39 : decode b_Mo_window 39 = .ok (.aload_n 0, 1) := by decide +kernel
theorem d_Mo_window_40 : decode b_Mo_window 40 = .ok (.getfield 22, 3) := by decide +kernel
theorem d_Mo_window_43 : decode b_Mo_window 43 = .ok (.aload_n 0, 1) := by decide +kernel
theorem d_Mo_window_44 : decode b_Mo_window 44 = .ok (.getfield 92, 3) := by decide +kernel
theorem d_Mo_window_47 : decode b_Mo_window 47 = .ok (.iload_n 1, 1) := by decide +kernel
theorem d_Mo_window_48 : decode b_Mo_window 48 = .ok (.iastore, 1) := by decide +kernel
theorem d_Mo_window_49 : decode b_Mo_window 49 = .ok (.aload_n 0, 1) := by decide +kernel
theorem d_Mo_window_50 : decode b_Mo_window 50 = .ok (.getfield 25, 3) := by decide +kernel
theorem d_Mo_window_53 : decode b_Mo_window 53 = .ok (.aload_n 0, 1) := by decide +kernel
theorem d_Mo_window_54 : decode b_Mo_window 54 = .ok (.getfield 92, 3) := by decide +kernel
theorem d_Mo_window_57 : decode b_Mo_window 57 = .ok (.iload_n 2, 1) := by decide +kernel
theorem d_Mo_window_58 : decode b_Mo_window 58 = .ok (.iastore, 1) := by decide +kernel
theorem d_Mo_window_59 : decode b_Mo_window 59 = .ok (.aload_n 0, 1) := by decide +kernel
theorem d_Mo_window_60 : decode b_Mo_window 60 = .ok (.getfield 28, 3) := by decide +kernel
theorem d_Mo_window_63 : decode b_Mo_window 63 = .ok (.aload_n 0, 1) := by decide +kernel
theorem d_Mo_window_64 : decode b_Mo_window 64 = .ok (.getfield 92, 3) := by decide +kernel
theorem d_Mo_window_67 : decode b_Mo_window 67 = .ok (.iload_n 3, 1) := by decide +kernel
theorem d_Mo_window_68 : decode b_Mo_window 68 = .ok (.iastore, 1) := by decide +kernel
theorem d_Mo_window_69 : decode b_Mo_window 69 = .ok (.aload_n 0, 1) := by decide +kernel
theorem d_Mo_window_70 : decode b_Mo_window 70 = .ok (.getfield 31, 3) := by decide +kernel
theorem d_Mo_window_73 : decode b_Mo_window 73 = .ok (.aload_n 0, 1) := by decide +kernel
theorem d_Mo_window_74 : decode b_Mo_window 74 = .ok (.getfield 92, 3) := by decide +kernel
theorem d_Mo_window_77 : decode b_Mo_window 77 = .ok (.iconst (-1), 1) := by decide +kernel
theorem d_Mo_window_78 : decode b_Mo_window 78 = .ok (.iastore, 1) := by decide +kernel
theorem d_Mo_window_79 : decode b_Mo_window 79 = .ok (.aload_n 0, 1) := by decide +kernel
theorem d_Mo_window_80 : decode b_Mo_window 80 = .ok (.getfield 34, 3) := by decide +kernel
theorem d_Mo_window_83 : decode b_Mo_window 83 = .ok (.aload_n 0, 1) := by decide +kernel
theorem d_Mo_window_84 : decode b_Mo_window 84 = .ok (.getfield 92, 3) := by decide +kernel
theorem d_Mo_window_87 : decode b_Mo_window 87 = .ok (.iconst (-1), 1) := by decide +kernel
theorem d_Mo_window_88 : decode b_Mo_window 88 = .ok (.iastore, 1) := by decide +kernel
theorem d_Mo_window_89 : decode b_Mo_window 89 = .ok (.aload_n 0, 1) := by decide +kernel
theorem d_Mo_window_90 : decode b_Mo_window 90 = .ok (.getfield 37, 3) := by decide +kernel
theorem d_Mo_window_93 : decode b_Mo_window 93 = .ok (.aload_n 0, 1) := by decide +kernel
theorem d_Mo_window_94 : decode b_Mo_window 94 = .ok (.getfield 92, 3) := by decide +kernel
theorem d_Mo_window_97 : decode b_Mo_window 97 = .ok (.iconst 0, 1) := by decide +kernel
theorem d_Mo_window_98 : decode b_Mo_window 98 = .ok (.bastore, 1) := by decide +kernel
theorem d_Mo_window_99 : decode b_Mo_window 99 = .ok (.aload_n 0, 1) := by decide +kernel
theorem d_Mo_window_100 : decode b_Mo_window 100 = .ok (.getfield 41, 3) := by decide +kernel
theorem d_Mo_window_103 : decode b_Mo_window 103 = .ok (.aload_n 0, 1) := by decide +kernel
theorem d_Mo_window_104 : decode b_Mo_window 104 = .ok (.getfield 92, 3) := by decide +kernel
theorem d_Mo_window_107 : decode b_Mo_window 107 = .ok (.iconst 0, 1) := by decide +kernel
theorem d_Mo_window_108 : decode b_Mo_window 108 = .ok (.bastore, 1) := by decide +kernel
theorem d_Mo_window_109 : decode b_Mo_window 109 = .ok (.aload_n 0, 1) := by decide +kernel
theorem d_Mo_window_110 : decode b_Mo_window 110 = .ok (.getfield 44, 3) := by decide +kernel
theorem d_Mo_window_113 : decode b_Mo_window 113 = .ok (.aload_n 0, 1) := by decide +kernel
theorem d_Mo_window_114 : decode b_Mo_window 114 = .ok (.getfield 92, 3) := by decide +kernel
theorem d_Mo_window_117 : decode b_Mo_window 117 = .ok (.bipush (-10), 2) := by decide +kernel
theorem d_Mo_window_119 : decode b_Mo_window 119 = .ok (.iastore, 1) := by decide +kernel
theorem d_Mo_window_120 : decode b_Mo_window 120 = .ok (.aload_n 0, 1) := by decide +kernel
theorem d_Mo_window_121 : decode b_Mo_window 121 = .ok (.getfield 47, 3) := by decide +kernel
theorem d_Mo_window_124 : decode b_Mo_window 124 = .ok (.aload_n 0, 1) := by decide +kernel
theorem d_Mo_window_125 : decode b_Mo_window 125 = .ok (.getfield 92, 3) := by decide +kernel
theorem d_Mo_window_128 : decode b_Mo_window 128 = .ok (.bipush 10, 2) := by decide +kernel
theorem d_Mo_window_130 : decode b_Mo_window 130 = .ok (.iastore, 1) := by decide +kernel
theorem d_Mo_window_131 : decode b_Mo_window 131 = .ok (.aload_n 0, 1) := by decide +kernel
theorem d_Mo_window_132 : decode b_Mo_window 132 = .ok (.dup, 1) := by decide +kernel
theorem d_Mo_window_133 : decode b_Mo_window 133 = .ok (.getfield 92, 3) := by decide +kernel
theorem d_Mo_window_136 : decode b_Mo_window 136 = .ok (.iconst 1, 1) := by decide +kernel
theorem d_Mo_window_137 : decode b_Mo_window 137 = .ok (.iadd, 1) := by decide +kernel
theorem d_Mo_window_138 : decode b_Mo_window 138 = .ok (.putfield 92, 3) := by decide +kernel
theorem d_Mo_window_141 : decode b_Mo_window 141 = .ok (.aload_n 0, 1) := by decide +kernel
theorem d_Mo_window_142 : decode b_Mo_window 142 = .ok (.getfield 92, 3) := by decide +kernel
theorem d_Mo_window_145 : decode b_Mo_window 145 = .ok (.iconst 1, 1) := by decide +kernel
theorem d_Mo_window_146 : decode b_Mo_window 146 = .ok (.isub, 1) := by decide +kernel
theorem d_Mo_window_147 : decode b_Mo_window 147 = .ok (.ireturn, 1) := by decide +kernel
theorem d_Mo_over_0 : decode b_Mo_over 0 = .ok (.iload_n 1, 1) := by decide +kernel
theorem d_Mo_over_1 : decode b_Mo_over 1 = .ok (.iconst 0, 1) := by decide +kernel
theorem d_Mo_over_2 : decode b_Mo_over 2 = .ok (.aload_n 0, 1) := by decide +kernel
theorem d_Mo_over_3 : decode b_Mo_over 3 = .ok (.getfield 92, 3) := by decide +kernel
theorem d_Mo_over_6 : decode b_Mo_over 6 = .ok (.iconst 1, 1) := by decide +kernel
theorem d_Mo_over_7 : decode b_Mo_over 7 = .ok (.isub, 1) := by decide +kernel
theorem d_Mo_over_8 : decode b_Mo_over 8 = .ok (.invokestatic 81, 3) := by decide +kernel
theorem d_Mo_over_11 : decode b_Mo_over 11 = .ok (.ifCond .ne 35, 3) := by decide +kernel
theorem d_Mo_over_14 : decode b_Mo_over 14 = .ok (.iload_n 2, 1) := by decide +kernel
theorem d_Mo_over_15 : decode b_Mo_over 15 = .ok (.iconst (-1), 1) := by decide +kernel
theorem d_Mo_over_16 : decode b_Mo_over 16 = .ok (.iconst 5, 1) := by decide +kernel
theorem d_Mo_over_17 : decode b_Mo_over 17 = .ok (.invokestatic 81, 3) := by decide +kernel
theorem d_Mo_over_20 : decode b_Mo_over 20 = .ok (.ifCond .ne 26, 3) := by decide +kernel
theorem d_Mo_over_23 : decode b_Mo_over 23 = .ok (.iload_n 3, 1) := by decide +kernel
theorem d_Mo_over_24 : decode b_Mo_over 24 = .ok (.iconst (-1), 1) := by decide +kernel
theorem d_Mo_over_25 : decode b_Mo_over 25 = .ok (.iconst 5, 1) := by decide +kernel
theorem d_Mo_over_26 : decode b_Mo_over 26 = .ok (.invokestatic 81, 3) := by decide +kernel
theorem d_Mo_over_29 : decode b_Mo_over 29 = .ok (.ifCond .ne 17, 3) := by decide +kernel
theorem d_Mo_over_32 : decode b_Mo_over 32 = .ok (.aload_n 0, 1) := by decide +kernel
theorem d_Mo_over_33 : decode b_Mo_over 33 = .ok (.getfield 41, 3) := by decide +kernel
theorem d_Mo_over_36 : decode b_Mo_over 36 = .ok (.iload_n 1, 1) := by decide +kernel
theorem d_Mo_over_37 : decode b_Mo_over 37 = .ok (.baload, 1) := by decide +kernel
theorem d_Mo_over_38 : decode b_Mo_over 38 = .ok (.ifCond .eq 10, 3) := by decide +kernel
theorem d_Mo_over_41 : decode b_Mo_over 41 = .ok (.iload_n 3, 1) := by decide +kernel
theorem d_Mo_over_42 : decode b_Mo_over 42 = .ok (.iconst (-1), 1) := by decide +kernel
theorem d_Mo_over_43 : decode b_Mo_over 43 = .ok (.if_icmp .ne 5, 3) := by decide +kernel
theorem d_Mo_over_46 : decode b_Mo_over 46 = .ok (.iconst 0, 1) := by decide +kernel
theorem d_Mo_over_47 : decode b_Mo_over 47 = .ok (.ireturn, 1) := by decide +kernel
theorem d_Mo_over_48 : decode b_Mo_over 48 = .ok (.aload_n 0, 1) := by decide +kernel
theorem d_Mo_over_49 : decode b_Mo_over 49 = .ok (.getfield 31, 3) := by decide +kernel
theorem d_Mo_over_52 : decode b_Mo_over 52 = .ok (.iload_n 1, 1) := by decide +kernel
theorem d_Mo_over_53 : decode b_Mo_over 53 = .ok (.iload_n 2, 1) := by decide +kernel
theorem d_Mo_over_54 : decode b_Mo_over 54 = .ok (.iastore, 1) := by decide +kernel
theorem d_Mo_over_55 : decode b_Mo_over 55 = .ok (.aload_n 0, 1) := by decide +kernel
theorem d_Mo_over_56 : decode b_Mo_over 56 = .ok (.getfield 34, 3) := by decide +kernel
theorem d_Mo_over_59 : decode b_Mo_over 59 = .ok (.iload_n 1, 1) := by decide +kernel
theorem d_Mo_over_60 : decode b_Mo_over 60 = .ok (.iload_n 3, 1) := by decide +kernel
theorem d_Mo_over_61 : decode b_Mo_over 61 = .ok (.iastore, 1) := by decide +kernel
theorem d_Mo_over_62 : decode b_Mo_over 62 = .ok (.aload_n 0, 1) := by decide +kernel
theorem d_Mo_over_63 : decode b_Mo_over 63 = .ok (.getfield 37, 3) := by decide +kernel
theorem d_Mo_over_66 : decode b_Mo_over 66 = .ok (.iload_n 1, 1) := by decide +kernel
theorem d_Mo_over_67 : decode b_Mo_over 67 = .ok (.iload 4, 2) := by decide +kernel
theorem d_Mo_over_69 : decode b_Mo_over 69 = .ok (.bastore, 1) := by decide +kernel
theorem d_Mo_over_70 : decode b_Mo_over 70 = .ok (.iconst 1, 1) := by decide +kernel
theorem d_Mo_over_71 : decode b_Mo_over 71 = .ok (.ireturn, 1) := by decide +kernel
theorem d_Mo_frame_0 : decode b_Mo_frame 0 = .ok (.iload_n 1, 1) := by decide +kernel
theorem d_Mo_frame_1 : decode b_Mo_frame 1 = .ok (.iconst 0, 1) := by decide +kernel
theorem d_Mo_frame_2 : decode b_Mo_frame 2 = .ok (.aload_n 0, 1) := by decide +kernel
theorem d_Mo_frame_3 : decode b_Mo_frame 3 = .ok (.getfield 92, 3) := by decide +kernel
theorem d_Mo_frame_6 : decode b_Mo_frame 6 = .ok (.iconst 1, 1) := by decide +kernel
theorem d_Mo_frame_7 : decode b_Mo_frame 7 = .ok (.isub, 1) := by decide +kernel
theorem d_Mo_frame_8 : decode b_Mo_frame 8 = .ok (.invokestatic 81, 3) := by decide +kernel
theorem d_Mo_frame_11 : decode b_Mo_frame 11 = .ok (.ifCond .ne 40, 3) := by decide +kernel
theorem d_Mo_frame_14 : decode b_Mo_frame 14 = .ok (.iload_n 3, 1) := by decide +kernel
theorem d_Mo_frame_15 : decode b_Mo_frame 15 = .ok (.bipush (-10), 2) := by decide +kernel
theorem d_Mo_frame_17 : decode b_Mo_frame 17 = .ok (.bipush 9, 2) := by decide +kernel
theorem d_Mo_frame_19 : decode b_Mo_frame 19 = .ok (.invokestatic 81, 3) := by decide +kernel
theorem d_Mo_frame_22 : decode b_Mo_frame 22 = .ok (.ifCond .ne 29, 3) := by decide +kernel
theorem d_Mo_frame_25 : decode b_Mo_frame 25 = .ok (.iload 4, 2) := by decide +kernel
theorem d_Mo_frame_27 : decode b_Mo_frame 27 = .ok (.bipush (-9), 2) := by decide +kernel
theorem d_Mo_frame_29 : decode b_Mo_frame 29 = .ok (.bipush 10, 2) := by decide +kernel
theorem d_Mo_frame_31 : decode b_Mo_frame 31 = .ok (.invokestatic 81, 3) := by decide +kernel
theorem d_Mo_frame_34 : decode b_Mo_frame 34 = .ok (.ifCond .ne 17, 3) := by decide +kernel
theorem d_Mo_frame_37 : decode b_Mo_frame 37 = .ok (.iload_n 2, 1) := by decide +kernel
theorem d_Mo_frame_38 : decode b_Mo_frame 38 = .ok (.ifCond .eq 15, 3) := by decide +kernel
theorem d_Mo_frame_41 : decode b_Mo_frame 41 = .ok (.aload_n 0, 1) := by decide +kernel
theorem d_Mo_frame_42 : decode b_Mo_frame 42 = .ok (.getfield 34, 3) := by decide +kernel
theorem d_Mo_frame_45 : decode b_Mo_frame 45 = .ok (.iload_n 1, 1) := by decide +kernel
theorem d_Mo_frame_46 : decode b_Mo_frame 46 = .ok (.iaload, 1) := by decide +kernel
theorem d_Mo_frame_47 : decode b_Mo_frame 47 = .ok (.iconst (-1), 1) := by decide +kernel
theorem d_Mo_frame_48 : decode b_Mo_frame 48 = .ok (.if_icmp .ne 5, 3) := by decide +kernel
theorem d_Mo_frame_51 : decode b_Mo_frame 51 = .ok (.iconst 0, 1) := by decide +kernel
theorem d_Mo_frame_52 : decode b_Mo_frame 52 = .ok (.ireturn, 1) := by decide +kernel
theorem d_Mo_frame_53 : decode b_Mo_frame 53 = .ok (.aload_n 0, 1) := by decide +kernel
theorem d_Mo_frame_54 : decode b_Mo_frame 54 = .ok (.getfield 41, 3) := by decide +kernel
theorem d_Mo_frame_57 : decode b_Mo_frame 57 = .ok (.iload_n 1, 1) := by decide +kernel
theorem d_Mo_frame_58 : decode b_Mo_frame 58 = .ok (.iload_n 2, 1) := by decide +kernel
theorem d_Mo_frame_59 : decode b_Mo_frame 59 = .ok (.bastore, 1) := by decide +kernel
theorem d_Mo_frame_60 : decode b_Mo_frame 60 = .ok (.aload_n 0, 1) := by decide +kernel
theorem d_Mo_frame_61 : decode b_Mo_frame 61 = .ok (.getfield 44, 3) := by decide +kernel
theorem d_Mo_frame_64 : decode b_Mo_frame 64 = .ok (.iload_n 1, 1) := by decide +kernel
theorem d_Mo_frame_65 : decode b_Mo_frame 65 = .ok (.iload_n 3, 1) := by decide +kernel
theorem d_Mo_frame_66 : decode b_Mo_frame 66 = .ok (.iastore, 1) := by decide +kernel
theorem d_Mo_frame_67 : decode b_Mo_frame 67 = .ok (.aload_n 0, 1) := by decide +kernel
theorem d_Mo_frame_68 : decode b_Mo_frame 68 = .ok (.getfield 47, 3) := by decide +kernel
theorem d_Mo_frame_71 : decode b_Mo_frame 71 = .ok (.iload_n 1, 1) := by decide +kernel
theorem d_Mo_frame_72 : decode b_Mo_frame 72 = .ok (.iload 4, 2) := by decide +kernel
theorem d_Mo_frame_74 : decode b_Mo_frame 74 = .ok (.iastore, 1) := by decide +kernel
theorem d_Mo_frame_75 : decode b_Mo_frame 75 = .ok (.iconst 1, 1) := by decide +kernel
theorem d_Mo_frame_76 : decode b_Mo_frame 76 = .ok (.ireturn, 1) := by decide +kernel
theorem d_Mo_there_0 : decode b_Mo_there 0 = .ok (.iload_n 1, 1) := by decide +kernel
theorem d_Mo_there_1 : decode b_Mo_there 1 = .ok (.ifCond .lt 25, 3) := by decide +kernel
theorem d_Mo_there_4 : decode b_Mo_there 4 = .ok (.iload_n 1, 1) := by decide +kernel
theorem d_Mo_there_5 : decode b_Mo_there 5 = .ok (.aload_n 0, 1) := by decide +kernel
theorem d_Mo_there_6 : decode b_Mo_there 6 = .ok (.getfield 247, 3) := by decide +kernel
theorem d_Mo_there_9 : decode b_Mo_there 9 = .ok (.if_icmp .ge 17, 3) := by decide +kernel
theorem d_Mo_there_12 : decode b_Mo_there 12 = .ok (.iload_n 2, 1) := by decide +kernel
theorem d_Mo_there_13 : decode b_Mo_there 13 = .ok (.ifCond .lt 13, 3) := by decide +kernel
theorem d_Mo_there_16 : decode b_Mo_there 16 = .ok (.iload_n 2, 1) := by decide +kernel
theorem d_Mo_there_17 : decode b_Mo_there 17 = .ok (.bipush 8, 2) := by decide +kernel
theorem d_Mo_there_19 : decode b_Mo_there 19 = .ok (.if_icmp .gt 7, 3) := by decide +kernel
theorem d_Mo_there_22 : decode b_Mo_there 22 = .ok (.iconst 1, 1) := by decide +kernel
theorem d_Mo_there_23 : decode b_Mo_there 23 = .ok (.goto 4, 3) := by decide +kernel
theorem d_Mo_there_26 : decode b_Mo_there 26 = .ok (.iconst 0, 1) := by decide +kernel
theorem d_Mo_there_27 : decode b_Mo_there 27 = .ok (.ireturn, 1) := by decide +kernel
theorem d_Mo_cell_0 : decode b_Mo_cell 0 = .ok (.aload_n 0, 1) := by decide +kernel
theorem d_Mo_cell_1 : decode b_Mo_cell 1 = .ok (.iload_n 1, 1) := by decide +kernel
theorem d_Mo_cell_2 : decode b_Mo_cell 2 = .ok (.iload_n 2, 1) := by decide +kernel
theorem d_Mo_cell_3 : decode b_Mo_cell 3 = .ok (.invokevirtual 262, 3) := by decide +kernel
theorem d_Mo_cell_6 : decode b_Mo_cell 6 = .ok (.ifCond .eq 41, 3) := by decide +kernel
theorem d_Mo_cell_9 : decode b_Mo_cell 9 = .ok (.aload_n 0, 1) := by decide +kernel
theorem d_Mo_cell_10 : decode b_Mo_cell 10 = .ok (.getfield 56, 3) := by decide +kernel
theorem d_Mo_cell_13 : decode b_Mo_cell 13 = .ok (.bipush 9, 2) := by decide +kernel
theorem d_Mo_cell_15 : decode b_Mo_cell 15 = .ok (.aload_n 0, 1) := by decide +kernel
theorem d_Mo_cell_16 : decode b_Mo_cell 16 = .ok (.getfield 65, 3) := by decide +kernel
theorem d_Mo_cell_19 : decode b_Mo_cell 19 = .ok (.iload_n 1, 1) := by decide +kernel
theorem d_Mo_cell_20 : decode b_Mo_cell 20 = .ok (.iaload, 1) := by decide +kernel
theorem d_Mo_cell_21 : decode b_Mo_cell 21 = .ok (.imul, 1) := by decide +kernel
theorem d_Mo_cell_22 : decode b_Mo_cell 22 = .ok (.iload_n 2, 1) := by decide +kernel
theorem d_Mo_cell_23 : decode b_Mo_cell 23 = .ok (.iadd, 1) := by decide +kernel
theorem d_Mo_cell_24 : decode b_Mo_cell 24 = .ok (.baload, 1) := by decide +kernel
theorem d_Mo_cell_25 : decode b_Mo_cell 25 = .ok (.ifCond .ne 22, 3) := by decide +kernel
theorem d_Mo_cell_28 : decode b_Mo_cell 28 = .ok (.aload_n 0, 1) := by decide +kernel
theorem d_Mo_cell_29 : decode b_Mo_cell 29 = .ok (.getfield 53, 3) := by decide +kernel
theorem d_Mo_cell_32 : decode b_Mo_cell 32 = .ok (.bipush 9, 2) := by decide +kernel
theorem d_Mo_cell_34 : decode b_Mo_cell 34 = .ok (.aload_n 0, 1) := by decide +kernel
theorem d_Mo_cell_35 : decode b_Mo_cell 35 = .ok (.getfield 65, 3) := by decide +kernel
theorem d_Mo_cell_38 : decode b_Mo_cell 38 = .ok (.iload_n 1, 1) := by decide +kernel
theorem d_Mo_cell_39 : decode b_Mo_cell 39 = .ok (.iaload, 1) := by decide +kernel
theorem d_Mo_cell_40 : decode b_Mo_cell 40 = .ok (.imul, 1) := by decide +kernel
theorem d_Mo_cell_41 : decode b_Mo_cell 41 = .ok (.iload_n 2, 1) := by decide +kernel
theorem d_Mo_cell_42 : decode b_Mo_cell 42 = .ok (.iadd, 1) := by decide +kernel
theorem d_Mo_cell_43 : decode b_Mo_cell 43 = .ok (.iaload, 1) := by decide +kernel
theorem d_Mo_cell_44 : decode b_Mo_cell 44 = .ok (.goto 4, 3) := by decide +kernel
theorem d_Mo_cell_47 : decode b_Mo_cell 47 = .ok (.iconst 0, 1) := by decide +kernel
theorem d_Mo_cell_48 : decode b_Mo_cell 48 = .ok (.ireturn, 1) := by decide +kernel
theorem d_Mo_isNull_0 : decode b_Mo_isNull 0 = .ok (.aload_n 0, 1) := by decide +kernel
theorem d_Mo_isNull_1 : decode b_Mo_isNull 1 = .ok (.iload_n 1, 1) := by decide +kernel
theorem d_Mo_isNull_2 : decode b_Mo_isNull 2 = .ok (.iload_n 2, 1) := by decide +kernel
theorem d_Mo_isNull_3 : decode b_Mo_isNull 3 = .ok (.invokevirtual 262, 3) := by decide +kernel
theorem d_Mo_isNull_6 : decode b_Mo_isNull 6 = .ok (.ifCond .eq 26, 3) := by decide +kernel
theorem d_Mo_isNull_9 : decode b_Mo_isNull 9 = .ok (.aload_n 0, 1) := by decide +kernel
theorem d_Mo_isNull_10 : decode b_Mo_isNull 10 = .ok (.getfield 56, 3) := by decide +kernel
theorem d_Mo_isNull_13 : decode b_Mo_isNull 13 = .ok (.bipush 9, 2) := by decide +kernel
theorem d_Mo_isNull_15 : decode b_Mo_isNull 15 = .ok (.aload_n 0, 1) := by decide +kernel
theorem d_Mo_isNull_16 : decode b_Mo_isNull 16 = .ok (.getfield 65, 3) := by decide +kernel
theorem d_Mo_isNull_19 : decode b_Mo_isNull 19 = .ok (.iload_n 1, 1) := by decide +kernel
theorem d_Mo_isNull_20 : decode b_Mo_isNull 20 = .ok (.iaload, 1) := by decide +kernel
theorem d_Mo_isNull_21 : decode b_Mo_isNull 21 = .ok (.imul, 1) := by decide +kernel
theorem d_Mo_isNull_22 : decode b_Mo_isNull 22 = .ok (.iload_n 2, 1) := by decide +kernel
theorem d_Mo_isNull_23 : decode b_Mo_isNull 23 = .ok (.iadd, 1) := by decide +kernel
theorem d_Mo_isNull_24 : decode b_Mo_isNull 24 = .ok (.baload, 1) := by decide +kernel
theorem d_Mo_isNull_25 : decode b_Mo_isNull 25 = .ok (.ifCond .eq 7, 3) := by decide +kernel
theorem d_Mo_isNull_28 : decode b_Mo_isNull 28 = .ok (.iconst 1, 1) := by decide +kernel
theorem d_Mo_isNull_29 : decode b_Mo_isNull 29 = .ok (.goto 4, 3) := by decide +kernel
theorem d_Mo_isNull_32 : decode b_Mo_isNull 32 = .ok (.iconst 0, 1) := by decide +kernel
theorem d_Mo_isNull_33 : decode b_Mo_isNull 33 = .ok (.ireturn, 1) := by decide +kernel
theorem d_Mo_passes_0 : decode b_Mo_passes 0 = .ok (.aload_n 0, 1) := by decide +kernel
theorem d_Mo_passes_1 : decode b_Mo_passes 1 = .ok (.getfield 85, 3) := by decide +kernel
theorem d_Mo_passes_4 : decode b_Mo_passes 4 = .ok (.ifCond .ne 5, 3) := by decide +kernel
theorem d_Mo_passes_7 : decode b_Mo_passes 7 = .ok (.iconst 1, 1) := by decide +kernel
theorem d_Mo_passes_8 : decode b_Mo_passes 8 = .ok (.ireturn, 1) := by decide +kernel
theorem d_Mo_passes_9 : decode b_Mo_passes 9 = .ok (.aload_n 0, 1) := by decide +kernel
theorem d_Mo_passes_10 : decode b_Mo_passes 10 = .ok (.iconst 0, 1) := by decide +kernel
theorem d_Mo_passes_11 : decode b_Mo_passes 11 = .ok (.iload_n 1, 1) := by decide +kernel
theorem d_Mo_passes_12 : decode b_Mo_passes 12 = .ok (.aload_n 0, 1) := by decide +kernel
theorem d_Mo_passes_13 : decode b_Mo_passes 13 = .ok (.getfield 19, 3) := by decide +kernel
theorem d_Mo_passes_16 : decode b_Mo_passes 16 = .ok (.iconst 0, 1) := by decide +kernel
theorem d_Mo_passes_17 : decode b_Mo_passes 17 = .ok (.iaload, 1) := by decide +kernel
theorem d_Mo_passes_18 : decode b_Mo_passes 18 = .ok (.invokevirtual 113, 3) := by decide +kernel
theorem d_Mo_passes_21 : decode b_Mo_passes 21 = .ok (.istore_n 2, 1) := by decide +kernel
theorem d_Mo_passes_22 : decode b_Mo_passes 22 = .ok (.aload_n 0, 1) := by decide +kernel
theorem d_Mo_passes_23 : decode b_Mo_passes 23 = .ok (.iconst 0, 1) := by decide +kernel
theorem d_Mo_passes_24 : decode b_Mo_passes 24 = .ok (.iload_n 1, 1) := by decide +kernel
theorem d_Mo_passes_25 : decode b_Mo_passes 25 = .ok (.aload_n 0, 1) := by decide +kernel
theorem d_Mo_passes_26 : decode b_Mo_passes 26 = .ok (.getfield 19, 3) := by decide +kernel
theorem d_Mo_passes_29 : decode b_Mo_passes 29 = .ok (.iconst 0, 1) := by decide +kernel
theorem d_Mo_passes_30 : decode b_Mo_passes 30 = .ok (.iaload, 1) := by decide +kernel
theorem d_Mo_passes_31 : decode b_Mo_passes 31 = .ok (.invokevirtual 115, 3) := by decide +kernel
theorem d_Mo_passes_34 : decode b_Mo_passes 34 = .ok (.istore_n 3, 1) := by decide +kernel
theorem d_Mo_passes_35 : decode b_Mo_passes 35 = .ok (.aload_n 0, 1) := by decide +kernel
theorem d_Mo_passes_36 : decode b_Mo_passes 36 = .ok (.getfield 19, 3) := by decide +kernel
theorem d_Mo_passes_39 : decode b_Mo_passes 39 = .ok (.iconst 1, 1) := by decide +kernel
theorem d_Mo_passes_40 : decode b_Mo_passes 40 = .ok (.iaload, 1) := by decide +kernel
theorem d_Mo_passes_41 : decode b_Mo_passes 41 = .ok (.tableswitch 101 0 3 #[31, 51, 71, 91], 31) := by decide +kernel
theorem d_Mo_passes_72 : decode b_Mo_passes 72 = .ok (.iload_n 2, 1) := by decide +kernel
theorem d_Mo_passes_73 : decode b_Mo_passes 73 = .ok (.ifCond .eq 17, 3) := by decide +kernel
theorem d_Mo_passes_76 : decode b_Mo_passes 76 = .ok (.iload_n 3, 1) := by decide +kernel
theorem d_Mo_passes_77 : decode b_Mo_passes 77 = .ok (.aload_n 0, 1) := by decide +kernel
theorem d_Mo_passes_78 : decode b_Mo_passes 78 = .ok (.getfield 19, 3) := by decide +kernel
theorem d_Mo_passes_81 : decode b_Mo_passes 81 = .ok (.iconst 2, 1) := by decide +kernel
theorem d_Mo_passes_82 : decode b_Mo_passes 82 = .ok (.iaload, 1) := by decide +kernel
theorem d_Mo_passes_83 : decode b_Mo_passes 83 = .ok (.if_icmp .ge 7, 3) := by decide +kernel
theorem d_Mo_passes_86 : decode b_Mo_passes 86 = .ok (.iconst 1, 1) := by decide +kernel
theorem d_Mo_passes_87 : decode b_Mo_passes 87 = .ok (.goto 4, 3) := by decide +kernel
theorem d_Mo_passes_90 : decode b_Mo_passes 90 = .ok (.iconst 0, 1) := by decide +kernel
theorem d_Mo_passes_91 : decode b_Mo_passes 91 = .ok (.ireturn, 1) := by decide +kernel
theorem d_Mo_passes_92 : decode b_Mo_passes 92 = .ok (.iload_n 2, 1) := by decide +kernel
theorem d_Mo_passes_93 : decode b_Mo_passes 93 = .ok (.ifCond .eq 17, 3) := by decide +kernel
theorem d_Mo_passes_96 : decode b_Mo_passes 96 = .ok (.iload_n 3, 1) := by decide +kernel
theorem d_Mo_passes_97 : decode b_Mo_passes 97 = .ok (.aload_n 0, 1) := by decide +kernel
theorem d_Mo_passes_98 : decode b_Mo_passes 98 = .ok (.getfield 19, 3) := by decide +kernel
theorem d_Mo_passes_101 : decode b_Mo_passes 101 = .ok (.iconst 2, 1) := by decide +kernel
theorem d_Mo_passes_102 : decode b_Mo_passes 102 = .ok (.iaload, 1) := by decide +kernel
theorem d_Mo_passes_103 : decode b_Mo_passes 103 = .ok (.if_icmp .ne 7, 3) := by decide +kernel
theorem d_Mo_passes_106 : decode b_Mo_passes 106 = .ok (.iconst 1, 1) := by decide +kernel
theorem d_Mo_passes_107 : decode b_Mo_passes 107 = .ok (.goto 4, 3) := by decide +kernel
theorem d_Mo_passes_110 : decode b_Mo_passes 110 = .ok (.iconst 0, 1) := by decide +kernel
theorem d_Mo_passes_111 : decode b_Mo_passes 111 = .ok (.ireturn, 1) := by decide +kernel
theorem d_Mo_passes_112 : decode b_Mo_passes 112 = .ok (.iload_n 2, 1) := by decide +kernel
theorem d_Mo_passes_113 : decode b_Mo_passes 113 = .ok (.ifCond .eq 17, 3) := by decide +kernel
theorem d_Mo_passes_116 : decode b_Mo_passes 116 = .ok (.iload_n 3, 1) := by decide +kernel
theorem d_Mo_passes_117 : decode b_Mo_passes 117 = .ok (.aload_n 0, 1) := by decide +kernel
theorem d_Mo_passes_118 : decode b_Mo_passes 118 = .ok (.getfield 19, 3) := by decide +kernel
theorem d_Mo_passes_121 : decode b_Mo_passes 121 = .ok (.iconst 2, 1) := by decide +kernel
theorem d_Mo_passes_122 : decode b_Mo_passes 122 = .ok (.iaload, 1) := by decide +kernel
theorem d_Mo_passes_123 : decode b_Mo_passes 123 = .ok (.if_icmp .le 7, 3) := by decide +kernel
theorem d_Mo_passes_126 : decode b_Mo_passes 126 = .ok (.iconst 1, 1) := by decide +kernel
theorem d_Mo_passes_127 : decode b_Mo_passes 127 = .ok (.goto 4, 3) := by decide +kernel
theorem d_Mo_passes_130 : decode b_Mo_passes 130 = .ok (.iconst 0, 1) := by decide +kernel
theorem d_Mo_passes_131 : decode b_Mo_passes 131 = .ok (.ireturn, 1) := by decide +kernel
theorem d_Mo_passes_132 : decode b_Mo_passes 132 = .ok (.iload_n 2, 1) := by decide +kernel
theorem d_Mo_passes_133 : decode b_Mo_passes 133 = .ok (.ifCond .ne 7, 3) := by decide +kernel
theorem d_Mo_passes_136 : decode b_Mo_passes 136 = .ok (.iconst 1, 1) := by decide +kernel
theorem d_Mo_passes_137 : decode b_Mo_passes 137 = .ok (.goto 4, 3) := by decide +kernel
theorem d_Mo_passes_140 : decode b_Mo_passes 140 = .ok (.iconst 0, 1) := by decide +kernel
theorem d_Mo_passes_141 : decode b_Mo_passes 141 = .ok (.ireturn, 1) := by decide +kernel
theorem d_Mo_passes_142 : decode b_Mo_passes 142 = .ok (.iload_n 2, 1) := by decide +kernel
theorem d_Mo_passes_143 : decode b_Mo_passes 143 = .ok (.ireturn, 1) := by decide +kernel
set_option maxHeartbeats 4000000 in
set_option maxRecDepth 100000 in
theorem c_Mo_insert_t (l : Launch) (D : va_G) (cI cL cZ cW cR : ClassId) (o : Nat) (ϕ : Nat → Value) (x xa xb xc y : Int32) (hbad : x < nI 0 ∨ nI 1 < x) : Met l y_Mo_insert ws_Mo_insert rm1_30 (zPr D vwCl (zT cI cL cZ cW cR) [(o, .inr (9, [(ϕ 0), (ϕ 1), (ϕ 2), (ϕ 3), (ϕ 4), (ϕ 5), (ϕ 6), (ϕ 7), (ϕ 8), (ϕ 9), (ϕ 10), (ϕ 11), (ϕ 12), (ϕ 13), (ϕ 14), (ϕ 15), (ϕ 16), (ϕ 17), (ϕ 18), (ϕ 19), (ϕ 20), (ϕ 21), (ϕ 22), (ϕ 23), (ϕ 24), (ϕ 25), (ϕ 26), (ϕ 27), (ϕ 28), (ϕ 29), (ϕ 30), (ϕ 31), (ϕ 32), (ϕ 33), (ϕ 34), (ϕ 35), (ϕ 36), (ϕ 37), (ϕ 38), (ϕ 39), (ϕ 40), (ϕ 41), (ϕ 42), (ϕ 43)]))] [.ref o, .int x, .int xa, .int xb, .int xc, .int y]) (zSi (zb false)) 0 0 (fun _ => False) := by
  refine zk_enterR (cc := b_Mo_insert) (maxL := 7) (ret := some .boolean) (by decide) rfl (Nat.le_of_ble_eq_true rfl) ?_
  intro p e s m args below meth c ls Q hx hb hml hr hlk hown hts hP hK hN hl hQ
  have hl : lv_has ls 7 [(0, .ref o), (1, .int x), (2, .int xa), (3, .int xb), (4, .int xc), (5, .int y)] := hl
  refine lv_iload_n hx hb d_Mo_insert_0 rfl (lv_at hl 1 rfl) ?_
  refine lv_iconst (v := nI 0) hx hb d_Mo_insert_1 (by decide) ?_
  refine lv_iconst (v := nI 1) hx hb d_Mo_insert_2 (by decide) ?_
  have hPc := hP.sub (ws' := []) [] rfl
  refine zk_ri (va_runS (As := [.int x, .int (nI 0), .int (nI 1)]) (rest := []) ⟨hx, hb, hml, hown, hts⟩ (c_Mo_outside l D cI cL cZ cW cR x (nI 0) (nI 1)) (cwS 3 hts (zk_gS (fun _ h => List.mem_cons_of_mem _ h) ml_Mo_81 sm_Mo_outside in_Mo co_Mo_outside) rfl rfl rfl ⟨rfl, hd_Mo_outside⟩ ⟨Nat.le_of_ble_eq_true rfl, Nat.le_of_ble_eq_true rfl⟩) (zk_sr hN hK hPc) rfl rfl hl.1 rfl (lv_room (Nat.le_of_ble_eq_true rfl)) d_Mo_insert_3 ⟨Nat.zero_le _, Nat.zero_le _⟩) ?_
  refine zk_ifb_ne (tgt := 31) hx hb d_Mo_insert_6 rfl (fun _ => ?_) (fun hq => absurd hq (fun q => absurd (of_decide_eq_false q) (fun z => z hbad)))
  refine lv_iconst (v := zb false) hx hb d_Mo_insert_31 (by decide) ?_
  exact zk_zretR hx hb hr hlk hQ (rfl) d_Mo_insert_32
set_option maxHeartbeats 4000000 in
set_option maxRecDepth 100000 in
theorem c_Mo_insert_n (l : Launch) (D : va_G) (cI cL cZ cW cR : ClassId) (o : Nat) (ϕ : Nat → Value) (t : Nat) (xa xb xc y : Int32) (ht : t < 2) (hbad : y < nI 0 ∨ nI 7 < y) : Met l y_Mo_insert ws_Mo_insert rm1_30 (zPr D vwCl (zT cI cL cZ cW cR) [(o, .inr (9, [(ϕ 0), (ϕ 1), (ϕ 2), (ϕ 3), (ϕ 4), (ϕ 5), (ϕ 6), (ϕ 7), (ϕ 8), (ϕ 9), (ϕ 10), (ϕ 11), (ϕ 12), (ϕ 13), (ϕ 14), (ϕ 15), (ϕ 16), (ϕ 17), (ϕ 18), (ϕ 19), (ϕ 20), (ϕ 21), (ϕ 22), (ϕ 23), (ϕ 24), (ϕ 25), (ϕ 26), (ϕ 27), (ϕ 28), (ϕ 29), (ϕ 30), (ϕ 31), (ϕ 32), (ϕ 33), (ϕ 34), (ϕ 35), (ϕ 36), (ϕ 37), (ϕ 38), (ϕ 39), (ϕ 40), (ϕ 41), (ϕ 42), (ϕ 43)]))] [.ref o, .int (nI t), .int xa, .int xb, .int xc, .int y]) (zSi (zb false)) 0 0 (fun _ => False) := by
  refine zk_enterR (cc := b_Mo_insert) (maxL := 7) (ret := some .boolean) (by decide) rfl (Nat.le_of_ble_eq_true rfl) ?_
  intro p e s m args below meth c ls Q hx hb hml hr hlk hown hts hP hK hN hl hQ
  have hl : lv_has ls 7 [(0, .ref o), (1, .int (nI t)), (2, .int xa), (3, .int xb), (4, .int xc), (5, .int y)] := hl
  refine lv_iload_n hx hb d_Mo_insert_0 rfl (lv_at hl 1 rfl) ?_
  refine lv_iconst (v := nI 0) hx hb d_Mo_insert_1 (by decide) ?_
  refine lv_iconst (v := nI 1) hx hb d_Mo_insert_2 (by decide) ?_
  have hPc := hP.sub (ws' := []) [] rfl
  refine zk_ri (va_runS (As := [.int (nI t), .int (nI 0), .int (nI 1)]) (rest := []) ⟨hx, hb, hml, hown, hts⟩ (c_Mo_outside l D cI cL cZ cW cR (nI t) (nI 0) (nI 1)) (cwS 3 hts (zk_gS (fun _ h => List.mem_cons_of_mem _ h) ml_Mo_81 sm_Mo_outside in_Mo co_Mo_outside) rfl rfl rfl ⟨rfl, hd_Mo_outside⟩ ⟨Nat.le_of_ble_eq_true rfl, Nat.le_of_ble_eq_true rfl⟩) (zk_sr hN hK hPc) rfl rfl hl.1 rfl (lv_room (Nat.le_of_ble_eq_true rfl)) d_Mo_insert_3 ⟨Nat.zero_le _, Nat.zero_le _⟩) ?_
  refine zk_ifb_ne (tgt := 31) hx hb d_Mo_insert_6 rfl (fun hq => absurd hq (fun q => absurd (of_decide_eq_true q) (fun z => z.elim (nI_nlt (by omega) (by omega)) (nI_nlt (by omega) (by omega))))) (fun _ => ?_)
  refine lv_iload hx hb d_Mo_insert_9 (lv_at hl 5 rfl) ?_
  refine lv_iconst (v := nI 0) hx hb d_Mo_insert_11 (by decide) ?_
  refine lv_bipush (v := nI 7) hx hb d_Mo_insert_12 (by decide) ?_
  have hPc := hP.sub (ws' := []) [] rfl
  refine zk_ri (va_runS (As := [.int y, .int (nI 0), .int (nI 7)]) (rest := []) ⟨hx, hb, hml, hown, hts⟩ (c_Mo_outside l D cI cL cZ cW cR y (nI 0) (nI 7)) (cwS 3 hts (zk_gS (fun _ h => List.mem_cons_of_mem _ h) ml_Mo_81 sm_Mo_outside in_Mo co_Mo_outside) rfl rfl rfl ⟨rfl, hd_Mo_outside⟩ ⟨Nat.le_of_ble_eq_true rfl, Nat.le_of_ble_eq_true rfl⟩) (zk_sr hN hK hPc) rfl rfl hl.1 rfl (lv_room (Nat.le_of_ble_eq_true rfl)) d_Mo_insert_14 ⟨Nat.zero_le _, Nat.zero_le _⟩) ?_
  refine zk_ifb_ne (tgt := 31) hx hb d_Mo_insert_17 rfl (fun _ => ?_) (fun hq => absurd hq (fun q => absurd (of_decide_eq_false q) (fun z => z hbad)))
  refine lv_iconst (v := zb false) hx hb d_Mo_insert_31 (by decide) ?_
  exact zk_zretR hx hb hr hlk hQ (rfl) d_Mo_insert_32
set_option maxHeartbeats 4000000 in
set_option maxRecDepth 100000 in
theorem c_Mo_insert_f (l : Launch) (D : va_G) (cI cL cZ cW cR : ClassId) (o : Nat) (ϕ : Nat → Value) (a_size : Nat) (sz_ : Nat → Nat) (t : Nat) (xa xb xc y : Int32) (ht : t < 2) (hy : nI 0 ≤ y ∧ y ≤ nI 7) (hf : sz_ t = 24) : Met l y_Mo_insert ws_Mo_insert rm1_30 (zPr D vwCl (zT cI cL cZ cW cR) [(o, .inr (9, [(ϕ 0), .ref a_size, (ϕ 2), (ϕ 3), (ϕ 4), (ϕ 5), (ϕ 6), (ϕ 7), (ϕ 8), (ϕ 9), (ϕ 10), (ϕ 11), (ϕ 12), (ϕ 13), (ϕ 14), (ϕ 15), (ϕ 16), (ϕ 17), (ϕ 18), (ϕ 19), (ϕ 20), (ϕ 21), (ϕ 22), (ϕ 23), (ϕ 24), (ϕ 25), (ϕ 26), (ϕ 27), (ϕ 28), (ϕ 29), (ϕ 30), (ϕ 31), (ϕ 32), (ϕ 33), (ϕ 34), (ϕ 35), (ϕ 36), (ϕ 37), (ϕ 38), (ϕ 39), (ϕ 40), (ϕ 41), (ϕ 42), (ϕ 43)])), (a_size, .inl (cI, 2, .inl (zN sz_)))] [.ref o, .int (nI t), .int xa, .int xb, .int xc, .int y]) (zSi (zb false)) 0 0 (fun _ => False) := by
  refine zk_enterR (cc := b_Mo_insert) (maxL := 7) (ret := some .boolean) (by decide) rfl (Nat.le_of_ble_eq_true rfl) ?_
  intro p e s m args below meth c ls Q hx hb hml hr hlk hown hts hP hK hN hl hQ
  have hl : lv_has ls 7 [(0, .ref o), (1, .int (nI t)), (2, .int xa), (3, .int xb), (4, .int xc), (5, .int y)] := hl
  refine lv_iload_n hx hb d_Mo_insert_0 rfl (lv_at hl 1 rfl) ?_
  refine lv_iconst (v := nI 0) hx hb d_Mo_insert_1 (by decide) ?_
  refine lv_iconst (v := nI 1) hx hb d_Mo_insert_2 (by decide) ?_
  have hPc := hP.sub (ws' := []) [] rfl
  refine zk_ri (va_runS (As := [.int (nI t), .int (nI 0), .int (nI 1)]) (rest := []) ⟨hx, hb, hml, hown, hts⟩ (c_Mo_outside l D cI cL cZ cW cR (nI t) (nI 0) (nI 1)) (cwS 3 hts (zk_gS (fun _ h => List.mem_cons_of_mem _ h) ml_Mo_81 sm_Mo_outside in_Mo co_Mo_outside) rfl rfl rfl ⟨rfl, hd_Mo_outside⟩ ⟨Nat.le_of_ble_eq_true rfl, Nat.le_of_ble_eq_true rfl⟩) (zk_sr hN hK hPc) rfl rfl hl.1 rfl (lv_room (Nat.le_of_ble_eq_true rfl)) d_Mo_insert_3 ⟨Nat.zero_le _, Nat.zero_le _⟩) ?_
  refine zk_ifb_ne (tgt := 31) hx hb d_Mo_insert_6 rfl (fun hq => absurd hq (fun q => absurd (of_decide_eq_true q) (fun z => z.elim (nI_nlt (by omega) (by omega)) (nI_nlt (by omega) (by omega))))) (fun _ => ?_)
  refine lv_iload hx hb d_Mo_insert_9 (lv_at hl 5 rfl) ?_
  refine lv_iconst (v := nI 0) hx hb d_Mo_insert_11 (by decide) ?_
  refine lv_bipush (v := nI 7) hx hb d_Mo_insert_12 (by decide) ?_
  have hPc := hP.sub (ws' := []) [] rfl
  refine zk_ri (va_runS (As := [.int y, .int (nI 0), .int (nI 7)]) (rest := []) ⟨hx, hb, hml, hown, hts⟩ (c_Mo_outside l D cI cL cZ cW cR y (nI 0) (nI 7)) (cwS 3 hts (zk_gS (fun _ h => List.mem_cons_of_mem _ h) ml_Mo_81 sm_Mo_outside in_Mo co_Mo_outside) rfl rfl rfl ⟨rfl, hd_Mo_outside⟩ ⟨Nat.le_of_ble_eq_true rfl, Nat.le_of_ble_eq_true rfl⟩) (zk_sr hN hK hPc) rfl rfl hl.1 rfl (lv_room (Nat.le_of_ble_eq_true rfl)) d_Mo_insert_14 ⟨Nat.zero_le _, Nat.zero_le _⟩) ?_
  refine zk_ifb_ne (tgt := 31) hx hb d_Mo_insert_17 rfl (fun hq => absurd hq (fun q => absurd (of_decide_eq_true q) (fun z => z.elim (Int32.not_lt.mpr hy.1) (Int32.not_lt.mpr hy.2)))) (fun _ => ?_)
  refine lv_aload_n hx hb d_Mo_insert_20 rfl (lv_at hl 0 rfl) ?_
  refine va_get (C := R_Mo) (T := F_Mo) (N := 44) hx hb hts (fun w h => List.mem_cons_of_mem _ (hin_Mo w h)) hown hK hP 0 rfl rfl 1 (by decide) (hts _ (List.mem_cons_of_mem _ fl_Mo_7)) (fun _ h => h) rfl d_Mo_insert_21 ?_
  refine lv_iload_n hx hb d_Mo_insert_24 rfl (lv_at hl 1 rfl) ?_
  refine zk_nald hx hb hK hP 1 0 rfl rfl (by omega) (by omega) d_Mo_insert_25 ?_
  refine lv_bipush (v := nI 24) hx hb d_Mo_insert_26 (by decide) ?_
  refine zk_icmp_lt (tgt := 33) hx hb d_Mo_insert_28 rfl (by omega) (by omega) (fun hq => absurd hq (by omega)) (fun _ => ?_)
  refine lv_iconst (v := zb false) hx hb d_Mo_insert_31 (by decide) ?_
  exact zk_zretR hx hb hr hlk hQ (rfl) d_Mo_insert_32
set_option maxHeartbeats 4000000 in
set_option maxRecDepth 100000 in
theorem c_Mo_insert (l : Launch) (D : va_G) (cI cL cZ cW cR : ClassId) (sz : Nat) (o : Nat) (ϕ : Nat → Value) (a_size a_given a_holes : Nat) (sz_ : Nat → Nat) (gv : Nat → Int32) (ho : Nat → Int32) (t : Nat) (xa xb xc y : Int32) (ht : t < 2) (hy : nI 0 ≤ y ∧ y ≤ nI 7) (hf : sz_ t < 24) : Met l y_Mo_insert ws_Mo_insert rm1_30 (zPw D vwCl (zT cI cL cZ cW cR) [(o, .inr (9, [(ϕ 0), .ref a_size, .ref a_given, .ref a_holes, (ϕ 4), (ϕ 5), (ϕ 6), (ϕ 7), (ϕ 8), (ϕ 9), (ϕ 10), (ϕ 11), (ϕ 12), (ϕ 13), (ϕ 14), (ϕ 15), (ϕ 16), (ϕ 17), (ϕ 18), (ϕ 19), (ϕ 20), (ϕ 21), (ϕ 22), (ϕ 23), (ϕ 24), (ϕ 25), (ϕ 26), (ϕ 27), (ϕ 28), (ϕ 29), (ϕ 30), (ϕ 31), (ϕ 32), (ϕ 33), (ϕ 34), (ϕ 35), (ϕ 36), (ϕ 37), (ϕ 38), (ϕ 39), (ϕ 40), (ϕ 41), (ϕ 42), (ϕ 43)])), (a_size, .inl (cI, 2, .inl (zN sz_))), (a_given, .inl (cI, 144, .inl gv)), (a_holes, .inl (cI, 48, .inl ho))] sz [.ref o, .int (nI t), .int xa, .int xb, .int xc, .int y]) (zQi D vwCl (zT cI cL cZ cW cR) [(o, .inr (9, [(ϕ 0), .ref a_size, .ref a_given, .ref a_holes, (ϕ 4), (ϕ 5), (ϕ 6), (ϕ 7), (ϕ 8), (ϕ 9), (ϕ 10), (ϕ 11), (ϕ 12), (ϕ 13), (ϕ 14), (ϕ 15), (ϕ 16), (ϕ 17), (ϕ 18), (ϕ 19), (ϕ 20), (ϕ 21), (ϕ 22), (ϕ 23), (ϕ 24), (ϕ 25), (ϕ 26), (ϕ 27), (ϕ 28), (ϕ 29), (ϕ 30), (ϕ 31), (ϕ 32), (ϕ 33), (ϕ 34), (ϕ 35), (ϕ 36), (ϕ 37), (ϕ 38), (ϕ 39), (ϕ 40), (ϕ 41), (ϕ 42), (ϕ 43)])), (a_size, .inl (cI, 2, .inl (zN sz_))), (a_given, .inl (cI, 144, .inl gv)), (a_holes, .inl (cI, 48, .inl ho))] sz (fun x (_ : Unit) => x = zb true) (fun _ => [(o, .inr (9, [(ϕ 0), .ref a_size, .ref a_given, .ref a_holes, (ϕ 4), (ϕ 5), (ϕ 6), (ϕ 7), (ϕ 8), (ϕ 9), (ϕ 10), (ϕ 11), (ϕ 12), (ϕ 13), (ϕ 14), (ϕ 15), (ϕ 16), (ϕ 17), (ϕ 18), (ϕ 19), (ϕ 20), (ϕ 21), (ϕ 22), (ϕ 23), (ϕ 24), (ϕ 25), (ϕ 26), (ϕ 27), (ϕ 28), (ϕ 29), (ϕ 30), (ϕ 31), (ϕ 32), (ϕ 33), (ϕ 34), (ϕ 35), (ϕ 36), (ϕ 37), (ϕ 38), (ϕ 39), (ϕ 40), (ϕ 41), (ϕ 42), (ϕ 43)])), (a_size, .inl (cI, 2, .inl (zN (va_up sz_ t (sz_ t + 1))))), (a_given, .inl (cI, 144, .inl (upd (upd (upd gv (72 * t + 3 * (sz_ t)) xa) (72 * t + 3 * (sz_ t) + 1) xb) (72 * t + 3 * (sz_ t) + 2) xc))), (a_holes, .inl (cI, 48, .inl (upd ho (24 * t + (sz_ t)) y)))])) 0 0 (va_A [(o, .inr (9, [(ϕ 0), .ref a_size, .ref a_given, .ref a_holes, (ϕ 4), (ϕ 5), (ϕ 6), (ϕ 7), (ϕ 8), (ϕ 9), (ϕ 10), (ϕ 11), (ϕ 12), (ϕ 13), (ϕ 14), (ϕ 15), (ϕ 16), (ϕ 17), (ϕ 18), (ϕ 19), (ϕ 20), (ϕ 21), (ϕ 22), (ϕ 23), (ϕ 24), (ϕ 25), (ϕ 26), (ϕ 27), (ϕ 28), (ϕ 29), (ϕ 30), (ϕ 31), (ϕ 32), (ϕ 33), (ϕ 34), (ϕ 35), (ϕ 36), (ϕ 37), (ϕ 38), (ϕ 39), (ϕ 40), (ϕ 41), (ϕ 42), (ϕ 43)])), (a_size, .inl (cI, 2, .inl (zN sz_))), (a_given, .inl (cI, 144, .inl gv)), (a_holes, .inl (cI, 48, .inl ho))] sz) := by
  refine zk_enterW (cc := b_Mo_insert) (maxL := 7) (ret := some .boolean) (by decide) rfl (Nat.le_of_ble_eq_true rfl) ?_
  intro p e s m args below meth c ls Q hx hb hml hr hlk hown hts hP hK hN hl hin hsz A hAe hA hD hS hQ
  subst hsz
  have hl : lv_has ls 7 [(0, .ref o), (1, .int (nI t)), (2, .int xa), (3, .int xb), (4, .int xc), (5, .int y)] := hl
  refine lv_iload_n hx hb d_Mo_insert_0 rfl (lv_at hl 1 rfl) ?_
  refine lv_iconst (v := nI 0) hx hb d_Mo_insert_1 (by decide) ?_
  refine lv_iconst (v := nI 1) hx hb d_Mo_insert_2 (by decide) ?_
  have hPc := hP.sub (ws' := []) [] rfl
  refine zk_ri (va_runS (As := [.int (nI t), .int (nI 0), .int (nI 1)]) (rest := []) ⟨hx, hb, hml, hown, hts⟩ (c_Mo_outside l D cI cL cZ cW cR (nI t) (nI 0) (nI 1)) (cwS 3 hts (zk_gS (fun _ h => List.mem_cons_of_mem _ h) ml_Mo_81 sm_Mo_outside in_Mo co_Mo_outside) rfl rfl rfl ⟨rfl, hd_Mo_outside⟩ ⟨Nat.le_of_ble_eq_true rfl, Nat.le_of_ble_eq_true rfl⟩) (zk_sr hN hK hPc) rfl rfl hl.1 rfl (lv_room (Nat.le_of_ble_eq_true rfl)) d_Mo_insert_3 ⟨Nat.zero_le _, Nat.zero_le _⟩) ?_
  refine zk_ifb_ne (tgt := 31) hx hb d_Mo_insert_6 rfl (fun hq => absurd hq (fun q => absurd (of_decide_eq_true q) (fun z => z.elim (nI_nlt (by omega) (by omega)) (nI_nlt (by omega) (by omega))))) (fun _ => ?_)
  refine lv_iload hx hb d_Mo_insert_9 (lv_at hl 5 rfl) ?_
  refine lv_iconst (v := nI 0) hx hb d_Mo_insert_11 (by decide) ?_
  refine lv_bipush (v := nI 7) hx hb d_Mo_insert_12 (by decide) ?_
  have hPc := hP.sub (ws' := []) [] rfl
  refine zk_ri (va_runS (As := [.int y, .int (nI 0), .int (nI 7)]) (rest := []) ⟨hx, hb, hml, hown, hts⟩ (c_Mo_outside l D cI cL cZ cW cR y (nI 0) (nI 7)) (cwS 3 hts (zk_gS (fun _ h => List.mem_cons_of_mem _ h) ml_Mo_81 sm_Mo_outside in_Mo co_Mo_outside) rfl rfl rfl ⟨rfl, hd_Mo_outside⟩ ⟨Nat.le_of_ble_eq_true rfl, Nat.le_of_ble_eq_true rfl⟩) (zk_sr hN hK hPc) rfl rfl hl.1 rfl (lv_room (Nat.le_of_ble_eq_true rfl)) d_Mo_insert_14 ⟨Nat.zero_le _, Nat.zero_le _⟩) ?_
  refine zk_ifb_ne (tgt := 31) hx hb d_Mo_insert_17 rfl (fun hq => absurd hq (fun q => absurd (of_decide_eq_true q) (fun z => z.elim (Int32.not_lt.mpr hy.1) (Int32.not_lt.mpr hy.2)))) (fun _ => ?_)
  refine lv_aload_n hx hb d_Mo_insert_20 rfl (lv_at hl 0 rfl) ?_
  refine va_get (C := R_Mo) (T := F_Mo) (N := 44) hx hb hts (fun w h => List.mem_cons_of_mem _ (hin_Mo w h)) hown hK hP 0 rfl rfl 1 (by decide) (hts _ (List.mem_cons_of_mem _ fl_Mo_7)) (fun _ h => h) rfl d_Mo_insert_21 ?_
  refine lv_iload_n hx hb d_Mo_insert_24 rfl (lv_at hl 1 rfl) ?_
  refine zk_nald hx hb hK hP 1 0 rfl rfl (by omega) (by omega) d_Mo_insert_25 ?_
  refine lv_bipush (v := nI 24) hx hb d_Mo_insert_26 (by decide) ?_
  refine zk_icmp_lt (tgt := 33) hx hb d_Mo_insert_28 rfl (by omega) (by omega) (fun _ => ?_) (fun hq => absurd hq (by omega))
  refine lv_bipush (v := nI 72) hx hb d_Mo_insert_33 (by decide) ?_
  refine lv_iload_n hx hb d_Mo_insert_35 rfl (lv_at hl 1 rfl) ?_
  refine lv_imul hx hb d_Mo_insert_36 ?_
  refine zk_topi (show ((nI 72) * (nI t)) = nI (72 * t) from pk_mul 72 t) ?_
  refine lv_iconst (v := nI 3) hx hb d_Mo_insert_37 (by decide) ?_
  refine lv_aload_n hx hb d_Mo_insert_38 rfl (lv_at hl 0 rfl) ?_
  refine va_get (C := R_Mo) (T := F_Mo) (N := 44) hx hb hts (fun w h => List.mem_cons_of_mem _ (hin_Mo w h)) hown hK hP 0 rfl rfl 1 (by decide) (hts _ (List.mem_cons_of_mem _ fl_Mo_7)) (fun _ h => h) rfl d_Mo_insert_39 ?_
  refine lv_iload_n hx hb d_Mo_insert_42 rfl (lv_at hl 1 rfl) ?_
  refine zk_nald hx hb hK hP 1 0 rfl rfl (by omega) (by omega) d_Mo_insert_43 ?_
  refine lv_imul hx hb d_Mo_insert_44 ?_
  refine zk_topi (show ((nI 3) * (nI (sz_ t))) = nI (3 * (sz_ t)) from pk_mul 3 (sz_ t)) ?_
  refine lv_iadd hx hb d_Mo_insert_45 ?_
  refine zk_topi (show ((nI (72 * t)) + (nI (3 * (sz_ t)))) = nI (72 * t + (3 * (sz_ t))) from nI_add (72 * t) (3 * (sz_ t))) ?_
  refine lv_istore (lv' := [(6, .int (nI (72 * t + (3 * (sz_ t))))), (0, .ref o), (1, .int (nI t)), (2, .int xa), (3, .int xb), (4, .int xc), (5, .int y)]) hx hb d_Mo_insert_46 hl (by decide) rfl (fun ls hl => ?_)
  refine lv_aload_n hx hb d_Mo_insert_48 rfl (lv_at hl 1 rfl) ?_
  refine va_get (C := R_Mo) (T := F_Mo) (N := 44) hx hb hts (fun w h => List.mem_cons_of_mem _ (hin_Mo w h)) hown hK hP 0 rfl rfl 2 (by decide) (hts _ (List.mem_cons_of_mem _ fl_Mo_13)) (fun _ h => h) rfl d_Mo_insert_49 ?_
  refine lv_iload hx hb d_Mo_insert_52 (lv_at hl 0 rfl) ?_
  refine lv_iload_n hx hb d_Mo_insert_54 rfl (lv_at hl 3 rfl) ?_
  refine zk_iast hx hb hK hP hD hS 2 0 rfl rfl (by omega) (by omega) d_Mo_insert_55 (fun H locs hP hD hS => ?_)
  have hP : va_P D vwCl [(o, .inr (9, [(ϕ 0), .ref a_size, .ref a_given, .ref a_holes, (ϕ 4), (ϕ 5), (ϕ 6), (ϕ 7), (ϕ 8), (ϕ 9), (ϕ 10), (ϕ 11), (ϕ 12), (ϕ 13), (ϕ 14), (ϕ 15), (ϕ 16), (ϕ 17), (ϕ 18), (ϕ 19), (ϕ 20), (ϕ 21), (ϕ 22), (ϕ 23), (ϕ 24), (ϕ 25), (ϕ 26), (ϕ 27), (ϕ 28), (ϕ 29), (ϕ 30), (ϕ 31), (ϕ 32), (ϕ 33), (ϕ 34), (ϕ 35), (ϕ 36), (ϕ 37), (ϕ 38), (ϕ 39), (ϕ 40), (ϕ 41), (ϕ 42), (ϕ 43)])), (a_size, .inl (cI, 2, .inl (zN sz_))), (a_given, .inl (cI, 144, .inl (upd gv (72 * t + (3 * (sz_ t))) xa))), (a_holes, .inl (cI, 48, .inl ho))] H := hP
  have hD : va_D A [(o, .inr (9, [(ϕ 0), .ref a_size, .ref a_given, .ref a_holes, (ϕ 4), (ϕ 5), (ϕ 6), (ϕ 7), (ϕ 8), (ϕ 9), (ϕ 10), (ϕ 11), (ϕ 12), (ϕ 13), (ϕ 14), (ϕ 15), (ϕ 16), (ϕ 17), (ϕ 18), (ϕ 19), (ϕ 20), (ϕ 21), (ϕ 22), (ϕ 23), (ϕ 24), (ϕ 25), (ϕ 26), (ϕ 27), (ϕ 28), (ϕ 29), (ϕ 30), (ϕ 31), (ϕ 32), (ϕ 33), (ϕ 34), (ϕ 35), (ϕ 36), (ϕ 37), (ϕ 38), (ϕ 39), (ϕ 40), (ϕ 41), (ϕ 42), (ϕ 43)])), (a_size, .inl (cI, 2, .inl (zN sz_))), (a_given, .inl (cI, 144, .inl (upd gv (72 * t + (3 * (sz_ t))) xa))), (a_holes, .inl (cI, 48, .inl ho))] := hD
  refine lv_aload_n hx hb d_Mo_insert_56 rfl (lv_at hl 1 rfl) ?_
  refine va_get (C := R_Mo) (T := F_Mo) (N := 44) hx hb hts (fun w h => List.mem_cons_of_mem _ (hin_Mo w h)) hown hK hP 0 rfl rfl 2 (by decide) (hts _ (List.mem_cons_of_mem _ fl_Mo_13)) (fun _ h => h) rfl d_Mo_insert_57 ?_
  refine lv_iload hx hb d_Mo_insert_60 (lv_at hl 0 rfl) ?_
  refine lv_iconst (v := nI 1) hx hb d_Mo_insert_62 (by decide) ?_
  refine lv_iadd hx hb d_Mo_insert_63 ?_
  refine zk_topi (show ((nI (72 * t + (3 * (sz_ t)))) + (nI 1)) = nI (72 * t + (3 * (sz_ t)) + 1) from nI_add (72 * t + (3 * (sz_ t))) 1) ?_
  refine lv_iload_n hx hb d_Mo_insert_64 rfl (lv_at hl 4 rfl) ?_
  refine zk_iast hx hb hK hP hD hS 2 0 rfl rfl (by omega) (by omega) d_Mo_insert_65 (fun H locs hP hD hS => ?_)
  have hP : va_P D vwCl [(o, .inr (9, [(ϕ 0), .ref a_size, .ref a_given, .ref a_holes, (ϕ 4), (ϕ 5), (ϕ 6), (ϕ 7), (ϕ 8), (ϕ 9), (ϕ 10), (ϕ 11), (ϕ 12), (ϕ 13), (ϕ 14), (ϕ 15), (ϕ 16), (ϕ 17), (ϕ 18), (ϕ 19), (ϕ 20), (ϕ 21), (ϕ 22), (ϕ 23), (ϕ 24), (ϕ 25), (ϕ 26), (ϕ 27), (ϕ 28), (ϕ 29), (ϕ 30), (ϕ 31), (ϕ 32), (ϕ 33), (ϕ 34), (ϕ 35), (ϕ 36), (ϕ 37), (ϕ 38), (ϕ 39), (ϕ 40), (ϕ 41), (ϕ 42), (ϕ 43)])), (a_size, .inl (cI, 2, .inl (zN sz_))), (a_given, .inl (cI, 144, .inl (upd (upd gv (72 * t + (3 * (sz_ t))) xa) (72 * t + (3 * (sz_ t)) + 1) xb))), (a_holes, .inl (cI, 48, .inl ho))] H := hP
  have hD : va_D A [(o, .inr (9, [(ϕ 0), .ref a_size, .ref a_given, .ref a_holes, (ϕ 4), (ϕ 5), (ϕ 6), (ϕ 7), (ϕ 8), (ϕ 9), (ϕ 10), (ϕ 11), (ϕ 12), (ϕ 13), (ϕ 14), (ϕ 15), (ϕ 16), (ϕ 17), (ϕ 18), (ϕ 19), (ϕ 20), (ϕ 21), (ϕ 22), (ϕ 23), (ϕ 24), (ϕ 25), (ϕ 26), (ϕ 27), (ϕ 28), (ϕ 29), (ϕ 30), (ϕ 31), (ϕ 32), (ϕ 33), (ϕ 34), (ϕ 35), (ϕ 36), (ϕ 37), (ϕ 38), (ϕ 39), (ϕ 40), (ϕ 41), (ϕ 42), (ϕ 43)])), (a_size, .inl (cI, 2, .inl (zN sz_))), (a_given, .inl (cI, 144, .inl (upd (upd gv (72 * t + (3 * (sz_ t))) xa) (72 * t + (3 * (sz_ t)) + 1) xb))), (a_holes, .inl (cI, 48, .inl ho))] := hD
  refine lv_aload_n hx hb d_Mo_insert_66 rfl (lv_at hl 1 rfl) ?_
  refine va_get (C := R_Mo) (T := F_Mo) (N := 44) hx hb hts (fun w h => List.mem_cons_of_mem _ (hin_Mo w h)) hown hK hP 0 rfl rfl 2 (by decide) (hts _ (List.mem_cons_of_mem _ fl_Mo_13)) (fun _ h => h) rfl d_Mo_insert_67 ?_
  refine lv_iload hx hb d_Mo_insert_70 (lv_at hl 0 rfl) ?_
  refine lv_iconst (v := nI 2) hx hb d_Mo_insert_72 (by decide) ?_
  refine lv_iadd hx hb d_Mo_insert_73 ?_
  refine zk_topi (show ((nI (72 * t + (3 * (sz_ t)))) + (nI 2)) = nI (72 * t + (3 * (sz_ t)) + 2) from nI_add (72 * t + (3 * (sz_ t))) 2) ?_
  refine lv_iload hx hb d_Mo_insert_74 (lv_at hl 5 rfl) ?_
  refine zk_iast hx hb hK hP hD hS 2 0 rfl rfl (by omega) (by omega) d_Mo_insert_76 (fun H locs hP hD hS => ?_)
  have hP : va_P D vwCl [(o, .inr (9, [(ϕ 0), .ref a_size, .ref a_given, .ref a_holes, (ϕ 4), (ϕ 5), (ϕ 6), (ϕ 7), (ϕ 8), (ϕ 9), (ϕ 10), (ϕ 11), (ϕ 12), (ϕ 13), (ϕ 14), (ϕ 15), (ϕ 16), (ϕ 17), (ϕ 18), (ϕ 19), (ϕ 20), (ϕ 21), (ϕ 22), (ϕ 23), (ϕ 24), (ϕ 25), (ϕ 26), (ϕ 27), (ϕ 28), (ϕ 29), (ϕ 30), (ϕ 31), (ϕ 32), (ϕ 33), (ϕ 34), (ϕ 35), (ϕ 36), (ϕ 37), (ϕ 38), (ϕ 39), (ϕ 40), (ϕ 41), (ϕ 42), (ϕ 43)])), (a_size, .inl (cI, 2, .inl (zN sz_))), (a_given, .inl (cI, 144, .inl (upd (upd (upd gv (72 * t + (3 * (sz_ t))) xa) (72 * t + (3 * (sz_ t)) + 1) xb) (72 * t + (3 * (sz_ t)) + 2) xc))), (a_holes, .inl (cI, 48, .inl ho))] H := hP
  have hD : va_D A [(o, .inr (9, [(ϕ 0), .ref a_size, .ref a_given, .ref a_holes, (ϕ 4), (ϕ 5), (ϕ 6), (ϕ 7), (ϕ 8), (ϕ 9), (ϕ 10), (ϕ 11), (ϕ 12), (ϕ 13), (ϕ 14), (ϕ 15), (ϕ 16), (ϕ 17), (ϕ 18), (ϕ 19), (ϕ 20), (ϕ 21), (ϕ 22), (ϕ 23), (ϕ 24), (ϕ 25), (ϕ 26), (ϕ 27), (ϕ 28), (ϕ 29), (ϕ 30), (ϕ 31), (ϕ 32), (ϕ 33), (ϕ 34), (ϕ 35), (ϕ 36), (ϕ 37), (ϕ 38), (ϕ 39), (ϕ 40), (ϕ 41), (ϕ 42), (ϕ 43)])), (a_size, .inl (cI, 2, .inl (zN sz_))), (a_given, .inl (cI, 144, .inl (upd (upd (upd gv (72 * t + (3 * (sz_ t))) xa) (72 * t + (3 * (sz_ t)) + 1) xb) (72 * t + (3 * (sz_ t)) + 2) xc))), (a_holes, .inl (cI, 48, .inl ho))] := hD
  refine lv_aload_n hx hb d_Mo_insert_77 rfl (lv_at hl 1 rfl) ?_
  refine va_get (C := R_Mo) (T := F_Mo) (N := 44) hx hb hts (fun w h => List.mem_cons_of_mem _ (hin_Mo w h)) hown hK hP 0 rfl rfl 3 (by decide) (hts _ (List.mem_cons_of_mem _ fl_Mo_16)) (fun _ h => h) rfl d_Mo_insert_78 ?_
  refine lv_bipush (v := nI 24) hx hb d_Mo_insert_81 (by decide) ?_
  refine lv_iload_n hx hb d_Mo_insert_83 rfl (lv_at hl 2 rfl) ?_
  refine lv_imul hx hb d_Mo_insert_84 ?_
  refine zk_topi (show ((nI 24) * (nI t)) = nI (24 * t) from pk_mul 24 t) ?_
  refine lv_aload_n hx hb d_Mo_insert_85 rfl (lv_at hl 1 rfl) ?_
  refine va_get (C := R_Mo) (T := F_Mo) (N := 44) hx hb hts (fun w h => List.mem_cons_of_mem _ (hin_Mo w h)) hown hK hP 0 rfl rfl 1 (by decide) (hts _ (List.mem_cons_of_mem _ fl_Mo_7)) (fun _ h => h) rfl d_Mo_insert_86 ?_
  refine lv_iload_n hx hb d_Mo_insert_89 rfl (lv_at hl 2 rfl) ?_
  refine zk_nald hx hb hK hP 1 0 rfl rfl (by omega) (by omega) d_Mo_insert_90 ?_
  refine lv_iadd hx hb d_Mo_insert_91 ?_
  refine zk_topi (show ((nI (24 * t)) + (nI (sz_ t))) = nI (24 * t + (sz_ t)) from nI_add (24 * t) (sz_ t)) ?_
  refine lv_iload hx hb d_Mo_insert_92 (lv_at hl 6 rfl) ?_
  refine zk_iast hx hb hK hP hD hS 3 0 rfl rfl (by omega) (by omega) d_Mo_insert_94 (fun H locs hP hD hS => ?_)
  have hP : va_P D vwCl [(o, .inr (9, [(ϕ 0), .ref a_size, .ref a_given, .ref a_holes, (ϕ 4), (ϕ 5), (ϕ 6), (ϕ 7), (ϕ 8), (ϕ 9), (ϕ 10), (ϕ 11), (ϕ 12), (ϕ 13), (ϕ 14), (ϕ 15), (ϕ 16), (ϕ 17), (ϕ 18), (ϕ 19), (ϕ 20), (ϕ 21), (ϕ 22), (ϕ 23), (ϕ 24), (ϕ 25), (ϕ 26), (ϕ 27), (ϕ 28), (ϕ 29), (ϕ 30), (ϕ 31), (ϕ 32), (ϕ 33), (ϕ 34), (ϕ 35), (ϕ 36), (ϕ 37), (ϕ 38), (ϕ 39), (ϕ 40), (ϕ 41), (ϕ 42), (ϕ 43)])), (a_size, .inl (cI, 2, .inl (zN sz_))), (a_given, .inl (cI, 144, .inl (upd (upd (upd gv (72 * t + (3 * (sz_ t))) xa) (72 * t + (3 * (sz_ t)) + 1) xb) (72 * t + (3 * (sz_ t)) + 2) xc))), (a_holes, .inl (cI, 48, .inl (upd ho (24 * t + (sz_ t)) y)))] H := hP
  have hD : va_D A [(o, .inr (9, [(ϕ 0), .ref a_size, .ref a_given, .ref a_holes, (ϕ 4), (ϕ 5), (ϕ 6), (ϕ 7), (ϕ 8), (ϕ 9), (ϕ 10), (ϕ 11), (ϕ 12), (ϕ 13), (ϕ 14), (ϕ 15), (ϕ 16), (ϕ 17), (ϕ 18), (ϕ 19), (ϕ 20), (ϕ 21), (ϕ 22), (ϕ 23), (ϕ 24), (ϕ 25), (ϕ 26), (ϕ 27), (ϕ 28), (ϕ 29), (ϕ 30), (ϕ 31), (ϕ 32), (ϕ 33), (ϕ 34), (ϕ 35), (ϕ 36), (ϕ 37), (ϕ 38), (ϕ 39), (ϕ 40), (ϕ 41), (ϕ 42), (ϕ 43)])), (a_size, .inl (cI, 2, .inl (zN sz_))), (a_given, .inl (cI, 144, .inl (upd (upd (upd gv (72 * t + (3 * (sz_ t))) xa) (72 * t + (3 * (sz_ t)) + 1) xb) (72 * t + (3 * (sz_ t)) + 2) xc))), (a_holes, .inl (cI, 48, .inl (upd ho (24 * t + (sz_ t)) y)))] := hD
  refine lv_aload_n hx hb d_Mo_insert_95 rfl (lv_at hl 1 rfl) ?_
  refine va_get (C := R_Mo) (T := F_Mo) (N := 44) hx hb hts (fun w h => List.mem_cons_of_mem _ (hin_Mo w h)) hown hK hP 0 rfl rfl 1 (by decide) (hts _ (List.mem_cons_of_mem _ fl_Mo_7)) (fun _ h => h) rfl d_Mo_insert_96 ?_
  refine lv_iload_n hx hb d_Mo_insert_99 rfl (lv_at hl 2 rfl) ?_
  refine lv_dup2_11 hx hb d_Mo_insert_100 rfl rfl ?_
  refine zk_nald hx hb hK hP 1 0 rfl rfl (by omega) (by omega) d_Mo_insert_101 ?_
  refine lv_iconst (v := nI 1) hx hb d_Mo_insert_102 (by decide) ?_
  refine lv_iadd hx hb d_Mo_insert_103 ?_
  refine zk_topi (show ((nI (sz_ t)) + (nI 1)) = nI (sz_ t + 1) from nI_add (sz_ t) 1) ?_
  refine zk_nast hx hb hK hP hD hS 1 0 rfl rfl (by omega) (by omega) d_Mo_insert_104 (fun H locs hP hD hS => ?_)
  have hP : va_P D vwCl [(o, .inr (9, [(ϕ 0), .ref a_size, .ref a_given, .ref a_holes, (ϕ 4), (ϕ 5), (ϕ 6), (ϕ 7), (ϕ 8), (ϕ 9), (ϕ 10), (ϕ 11), (ϕ 12), (ϕ 13), (ϕ 14), (ϕ 15), (ϕ 16), (ϕ 17), (ϕ 18), (ϕ 19), (ϕ 20), (ϕ 21), (ϕ 22), (ϕ 23), (ϕ 24), (ϕ 25), (ϕ 26), (ϕ 27), (ϕ 28), (ϕ 29), (ϕ 30), (ϕ 31), (ϕ 32), (ϕ 33), (ϕ 34), (ϕ 35), (ϕ 36), (ϕ 37), (ϕ 38), (ϕ 39), (ϕ 40), (ϕ 41), (ϕ 42), (ϕ 43)])), (a_size, .inl (cI, 2, .inl (zN (va_up sz_ t (sz_ t + 1))))), (a_given, .inl (cI, 144, .inl (upd (upd (upd gv (72 * t + (3 * (sz_ t))) xa) (72 * t + (3 * (sz_ t)) + 1) xb) (72 * t + (3 * (sz_ t)) + 2) xc))), (a_holes, .inl (cI, 48, .inl (upd ho (24 * t + (sz_ t)) y)))] H := hP
  have hD : va_D A [(o, .inr (9, [(ϕ 0), .ref a_size, .ref a_given, .ref a_holes, (ϕ 4), (ϕ 5), (ϕ 6), (ϕ 7), (ϕ 8), (ϕ 9), (ϕ 10), (ϕ 11), (ϕ 12), (ϕ 13), (ϕ 14), (ϕ 15), (ϕ 16), (ϕ 17), (ϕ 18), (ϕ 19), (ϕ 20), (ϕ 21), (ϕ 22), (ϕ 23), (ϕ 24), (ϕ 25), (ϕ 26), (ϕ 27), (ϕ 28), (ϕ 29), (ϕ 30), (ϕ 31), (ϕ 32), (ϕ 33), (ϕ 34), (ϕ 35), (ϕ 36), (ϕ 37), (ϕ 38), (ϕ 39), (ϕ 40), (ϕ 41), (ϕ 42), (ϕ 43)])), (a_size, .inl (cI, 2, .inl (zN (va_up sz_ t (sz_ t + 1))))), (a_given, .inl (cI, 144, .inl (upd (upd (upd gv (72 * t + (3 * (sz_ t))) xa) (72 * t + (3 * (sz_ t)) + 1) xb) (72 * t + (3 * (sz_ t)) + 2) xc))), (a_holes, .inl (cI, 48, .inl (upd ho (24 * t + (sz_ t)) y)))] := hD
  refine lv_iconst (v := zb true) hx hb d_Mo_insert_105 (by decide) ?_
  exact zk_zretW hx hb hr hlk hAe hQ hK (()) (rfl) hP hD hS d_Mo_insert_106
set_option maxHeartbeats 4000000 in
set_option maxRecDepth 100000 in
theorem c_Mo_filter_b (l : Launch) (D : va_G) (cI cL cZ cW cR : ClassId) (o : Nat) (ϕ : Nat → Value) (x y z : Int32) (hbad : (x < nI 0 ∨ nI 2 < x) ∨ (y < nI 0 ∨ nI 4 < y)) : Met l y_Mo_filter ws_Mo_filter rm1_30 (zPr D vwCl (zT cI cL cZ cW cR) [(o, .inr (9, [(ϕ 0), (ϕ 1), (ϕ 2), (ϕ 3), (ϕ 4), (ϕ 5), (ϕ 6), (ϕ 7), (ϕ 8), (ϕ 9), (ϕ 10), (ϕ 11), (ϕ 12), (ϕ 13), (ϕ 14), (ϕ 15), (ϕ 16), (ϕ 17), (ϕ 18), (ϕ 19), (ϕ 20), (ϕ 21), (ϕ 22), (ϕ 23), (ϕ 24), (ϕ 25), (ϕ 26), (ϕ 27), (ϕ 28), (ϕ 29), (ϕ 30), (ϕ 31), (ϕ 32), (ϕ 33), (ϕ 34), (ϕ 35), (ϕ 36), (ϕ 37), (ϕ 38), (ϕ 39), (ϕ 40), (ϕ 41), (ϕ 42), (ϕ 43)]))] [.ref o, .int x, .int y, .int z]) (zSi (zb false)) 0 0 (fun _ => False) := by
  refine zk_enterR (cc := b_Mo_filter) (maxL := 4) (ret := some .boolean) (by decide) rfl (Nat.le_of_ble_eq_true rfl) ?_
  intro p e s m args below meth c ls Q hx hb hml hr hlk hown hts hP hK hN hl hQ
  have hl : lv_has ls 4 [(0, .ref o), (1, .int x), (2, .int y), (3, .int z)] := hl
  refine lv_iload_n hx hb d_Mo_filter_0 rfl (lv_at hl 1 rfl) ?_
  refine lv_iconst (v := nI 0) hx hb d_Mo_filter_1 (by decide) ?_
  refine lv_iconst (v := nI 2) hx hb d_Mo_filter_2 (by decide) ?_
  have hPc := hP.sub (ws' := []) [] rfl
  refine zk_ri (va_runS (As := [.int x, .int (nI 0), .int (nI 2)]) (rest := []) ⟨hx, hb, hml, hown, hts⟩ (c_Mo_outside l D cI cL cZ cW cR x (nI 0) (nI 2)) (cwS 3 hts (zk_gS (fun _ h => List.mem_cons_of_mem _ h) ml_Mo_81 sm_Mo_outside in_Mo co_Mo_outside) rfl rfl rfl ⟨rfl, hd_Mo_outside⟩ ⟨Nat.le_of_ble_eq_true rfl, Nat.le_of_ble_eq_true rfl⟩) (zk_sr hN hK hPc) rfl rfl hl.1 rfl (lv_room (Nat.le_of_ble_eq_true rfl)) d_Mo_filter_3 ⟨Nat.zero_le _, Nat.zero_le _⟩) ?_
  refine zk_ifb_ne (tgt := 18) hx hb d_Mo_filter_6 rfl (fun h6 => ?_) (fun h6 => ?_)
  · skip
    refine lv_iconst (v := zb false) hx hb d_Mo_filter_18 (by decide) ?_
    exact zk_zretR hx hb hr hlk hQ (rfl) d_Mo_filter_19
  · skip
    refine lv_iload_n hx hb d_Mo_filter_9 rfl (lv_at hl 2 rfl) ?_
    refine lv_iconst (v := nI 0) hx hb d_Mo_filter_10 (by decide) ?_
    refine lv_iconst (v := nI 4) hx hb d_Mo_filter_11 (by decide) ?_
    have hPc := hP.sub (ws' := []) [] rfl
    refine zk_ri (va_runS (As := [.int y, .int (nI 0), .int (nI 4)]) (rest := []) ⟨hx, hb, hml, hown, hts⟩ (c_Mo_outside l D cI cL cZ cW cR y (nI 0) (nI 4)) (cwS 3 hts (zk_gS (fun _ h => List.mem_cons_of_mem _ h) ml_Mo_81 sm_Mo_outside in_Mo co_Mo_outside) rfl rfl rfl ⟨rfl, hd_Mo_outside⟩ ⟨Nat.le_of_ble_eq_true rfl, Nat.le_of_ble_eq_true rfl⟩) (zk_sr hN hK hPc) rfl rfl hl.1 rfl (lv_room (Nat.le_of_ble_eq_true rfl)) d_Mo_filter_12 ⟨Nat.zero_le _, Nat.zero_le _⟩) ?_
    refine zk_ifb_eq (tgt := 20) hx hb d_Mo_filter_15 rfl (fun hq => absurd hq (fun q => hbad.elim (of_decide_eq_false h6) (of_decide_eq_false q))) (fun _ => ?_)
    refine lv_iconst (v := zb false) hx hb d_Mo_filter_18 (by decide) ?_
    exact zk_zretR hx hb hr hlk hQ (rfl) d_Mo_filter_19
set_option maxHeartbeats 4000000 in
set_option maxRecDepth 100000 in
theorem c_Mo_filter (l : Launch) (D : va_G) (cI cL cZ cW cR : ClassId) (sz : Nat) (o : Nat) (ϕ : Nat → Value) (a_test : Nat) (flt : Bool) (te : Nat → Int32) (c0 : Nat) (y z : Int32) (hc0 : c0 < 3) (hy : nI 0 ≤ y ∧ y ≤ nI 4) : Met l y_Mo_filter ws_Mo_filter rm1_30 (zPw D vwCl (zT cI cL cZ cW cR) [(o, .inr (9, [(ϕ 0), (ϕ 1), (ϕ 2), (ϕ 3), .int (zb flt), .ref a_test, (ϕ 6), (ϕ 7), (ϕ 8), (ϕ 9), (ϕ 10), (ϕ 11), (ϕ 12), (ϕ 13), (ϕ 14), (ϕ 15), (ϕ 16), (ϕ 17), (ϕ 18), (ϕ 19), (ϕ 20), (ϕ 21), (ϕ 22), (ϕ 23), (ϕ 24), (ϕ 25), (ϕ 26), (ϕ 27), (ϕ 28), (ϕ 29), (ϕ 30), (ϕ 31), (ϕ 32), (ϕ 33), (ϕ 34), (ϕ 35), (ϕ 36), (ϕ 37), (ϕ 38), (ϕ 39), (ϕ 40), (ϕ 41), (ϕ 42), (ϕ 43)])), (a_test, .inl (cI, 3, .inl te))] sz [.ref o, .int (nI c0), .int y, .int z]) (zQi D vwCl (zT cI cL cZ cW cR) [(o, .inr (9, [(ϕ 0), (ϕ 1), (ϕ 2), (ϕ 3), .int (zb flt), .ref a_test, (ϕ 6), (ϕ 7), (ϕ 8), (ϕ 9), (ϕ 10), (ϕ 11), (ϕ 12), (ϕ 13), (ϕ 14), (ϕ 15), (ϕ 16), (ϕ 17), (ϕ 18), (ϕ 19), (ϕ 20), (ϕ 21), (ϕ 22), (ϕ 23), (ϕ 24), (ϕ 25), (ϕ 26), (ϕ 27), (ϕ 28), (ϕ 29), (ϕ 30), (ϕ 31), (ϕ 32), (ϕ 33), (ϕ 34), (ϕ 35), (ϕ 36), (ϕ 37), (ϕ 38), (ϕ 39), (ϕ 40), (ϕ 41), (ϕ 42), (ϕ 43)])), (a_test, .inl (cI, 3, .inl te))] sz (fun x (_ : Unit) => x = zb true) (fun _ => [(o, .inr (9, [(ϕ 0), (ϕ 1), (ϕ 2), (ϕ 3), .int (zb true), .ref a_test, (ϕ 6), (ϕ 7), (ϕ 8), (ϕ 9), (ϕ 10), (ϕ 11), (ϕ 12), (ϕ 13), (ϕ 14), (ϕ 15), (ϕ 16), (ϕ 17), (ϕ 18), (ϕ 19), (ϕ 20), (ϕ 21), (ϕ 22), (ϕ 23), (ϕ 24), (ϕ 25), (ϕ 26), (ϕ 27), (ϕ 28), (ϕ 29), (ϕ 30), (ϕ 31), (ϕ 32), (ϕ 33), (ϕ 34), (ϕ 35), (ϕ 36), (ϕ 37), (ϕ 38), (ϕ 39), (ϕ 40), (ϕ 41), (ϕ 42), (ϕ 43)])), (a_test, .inl (cI, 3, .inl (upd (upd (upd te 0 (nI c0)) 1 y) 2 z)))])) 0 0 (va_A [(o, .inr (9, [(ϕ 0), (ϕ 1), (ϕ 2), (ϕ 3), .int (zb flt), .ref a_test, (ϕ 6), (ϕ 7), (ϕ 8), (ϕ 9), (ϕ 10), (ϕ 11), (ϕ 12), (ϕ 13), (ϕ 14), (ϕ 15), (ϕ 16), (ϕ 17), (ϕ 18), (ϕ 19), (ϕ 20), (ϕ 21), (ϕ 22), (ϕ 23), (ϕ 24), (ϕ 25), (ϕ 26), (ϕ 27), (ϕ 28), (ϕ 29), (ϕ 30), (ϕ 31), (ϕ 32), (ϕ 33), (ϕ 34), (ϕ 35), (ϕ 36), (ϕ 37), (ϕ 38), (ϕ 39), (ϕ 40), (ϕ 41), (ϕ 42), (ϕ 43)])), (a_test, .inl (cI, 3, .inl te))] sz) := by
  refine zk_enterW (cc := b_Mo_filter) (maxL := 4) (ret := some .boolean) (by decide) rfl (Nat.le_of_ble_eq_true rfl) ?_
  intro p e s m args below meth c ls Q hx hb hml hr hlk hown hts hP hK hN hl hin hsz A hAe hA hD hS hQ
  subst hsz
  have hl : lv_has ls 4 [(0, .ref o), (1, .int (nI c0)), (2, .int y), (3, .int z)] := hl
  refine lv_iload_n hx hb d_Mo_filter_0 rfl (lv_at hl 1 rfl) ?_
  refine lv_iconst (v := nI 0) hx hb d_Mo_filter_1 (by decide) ?_
  refine lv_iconst (v := nI 2) hx hb d_Mo_filter_2 (by decide) ?_
  have hPc := hP.sub (ws' := []) [] rfl
  refine zk_ri (va_runS (As := [.int (nI c0), .int (nI 0), .int (nI 2)]) (rest := []) ⟨hx, hb, hml, hown, hts⟩ (c_Mo_outside l D cI cL cZ cW cR (nI c0) (nI 0) (nI 2)) (cwS 3 hts (zk_gS (fun _ h => List.mem_cons_of_mem _ h) ml_Mo_81 sm_Mo_outside in_Mo co_Mo_outside) rfl rfl rfl ⟨rfl, hd_Mo_outside⟩ ⟨Nat.le_of_ble_eq_true rfl, Nat.le_of_ble_eq_true rfl⟩) (zk_sr hN hK hPc) rfl rfl hl.1 rfl (lv_room (Nat.le_of_ble_eq_true rfl)) d_Mo_filter_3 ⟨Nat.zero_le _, Nat.zero_le _⟩) ?_
  refine zk_ifb_ne (tgt := 18) hx hb d_Mo_filter_6 rfl (fun hq => absurd hq (fun q => absurd (of_decide_eq_true q) (fun z => z.elim (nI_nlt (by omega) (by omega)) (nI_nlt (by omega) (by omega))))) (fun _ => ?_)
  refine lv_iload_n hx hb d_Mo_filter_9 rfl (lv_at hl 2 rfl) ?_
  refine lv_iconst (v := nI 0) hx hb d_Mo_filter_10 (by decide) ?_
  refine lv_iconst (v := nI 4) hx hb d_Mo_filter_11 (by decide) ?_
  have hPc := hP.sub (ws' := []) [] rfl
  refine zk_ri (va_runS (As := [.int y, .int (nI 0), .int (nI 4)]) (rest := []) ⟨hx, hb, hml, hown, hts⟩ (c_Mo_outside l D cI cL cZ cW cR y (nI 0) (nI 4)) (cwS 3 hts (zk_gS (fun _ h => List.mem_cons_of_mem _ h) ml_Mo_81 sm_Mo_outside in_Mo co_Mo_outside) rfl rfl rfl ⟨rfl, hd_Mo_outside⟩ ⟨Nat.le_of_ble_eq_true rfl, Nat.le_of_ble_eq_true rfl⟩) (zk_sr hN hK hPc) rfl rfl hl.1 rfl (lv_room (Nat.le_of_ble_eq_true rfl)) d_Mo_filter_12 ⟨Nat.zero_le _, Nat.zero_le _⟩) ?_
  refine zk_ifb_eq (tgt := 20) hx hb d_Mo_filter_15 rfl (fun _ => ?_) (fun hq => absurd hq (fun q => absurd (of_decide_eq_true q) (fun z => z.elim (Int32.not_lt.mpr hy.1) (Int32.not_lt.mpr hy.2))))
  refine lv_aload_n hx hb d_Mo_filter_20 rfl (lv_at hl 0 rfl) ?_
  refine lv_iconst (v := zb true) hx hb d_Mo_filter_21 (by decide) ?_
  refine va_put (D := D) (v := .int (zb true)) (ty := .boolean) (C := R_Mo) (T := F_Mo) (N := 44) hx hb hts (fun w h => List.mem_cons_of_mem _ (hin_Mo w h)) t_Mo t_Mo_ok n_Mo hown hK hP hD hS 0 rfl rfl 4 (by decide) (hts _ (List.mem_cons_of_mem _ fl_Mo_85)) (fun _ h => h) rfl (by decide +kernel) (zb_nar true) (zb_fit true) (Nat.le_of_ble_eq_true rfl) d_Mo_filter_22 (fun H locs hP hD hS => ?_)
  have hP : va_P D vwCl [(o, .inr (9, [(ϕ 0), (ϕ 1), (ϕ 2), (ϕ 3), .int (zb true), .ref a_test, (ϕ 6), (ϕ 7), (ϕ 8), (ϕ 9), (ϕ 10), (ϕ 11), (ϕ 12), (ϕ 13), (ϕ 14), (ϕ 15), (ϕ 16), (ϕ 17), (ϕ 18), (ϕ 19), (ϕ 20), (ϕ 21), (ϕ 22), (ϕ 23), (ϕ 24), (ϕ 25), (ϕ 26), (ϕ 27), (ϕ 28), (ϕ 29), (ϕ 30), (ϕ 31), (ϕ 32), (ϕ 33), (ϕ 34), (ϕ 35), (ϕ 36), (ϕ 37), (ϕ 38), (ϕ 39), (ϕ 40), (ϕ 41), (ϕ 42), (ϕ 43)])), (a_test, .inl (cI, 3, .inl te))] H := hP
  have hD : va_D A [(o, .inr (9, [(ϕ 0), (ϕ 1), (ϕ 2), (ϕ 3), .int (zb true), .ref a_test, (ϕ 6), (ϕ 7), (ϕ 8), (ϕ 9), (ϕ 10), (ϕ 11), (ϕ 12), (ϕ 13), (ϕ 14), (ϕ 15), (ϕ 16), (ϕ 17), (ϕ 18), (ϕ 19), (ϕ 20), (ϕ 21), (ϕ 22), (ϕ 23), (ϕ 24), (ϕ 25), (ϕ 26), (ϕ 27), (ϕ 28), (ϕ 29), (ϕ 30), (ϕ 31), (ϕ 32), (ϕ 33), (ϕ 34), (ϕ 35), (ϕ 36), (ϕ 37), (ϕ 38), (ϕ 39), (ϕ 40), (ϕ 41), (ϕ 42), (ϕ 43)])), (a_test, .inl (cI, 3, .inl te))] := hD
  refine lv_aload_n hx hb d_Mo_filter_25 rfl (lv_at hl 0 rfl) ?_
  refine va_get (C := R_Mo) (T := F_Mo) (N := 44) hx hb hts (fun w h => List.mem_cons_of_mem _ (hin_Mo w h)) hown hK hP 0 rfl rfl 5 (by decide) (hts _ (List.mem_cons_of_mem _ fl_Mo_19)) (fun _ h => h) rfl d_Mo_filter_26 ?_
  refine lv_iconst (v := nI 0) hx hb d_Mo_filter_29 (by decide) ?_
  refine lv_iload_n hx hb d_Mo_filter_30 rfl (lv_at hl 1 rfl) ?_
  refine zk_iast hx hb hK hP hD hS 1 0 rfl rfl (by omega) (by omega) d_Mo_filter_31 (fun H locs hP hD hS => ?_)
  have hP : va_P D vwCl [(o, .inr (9, [(ϕ 0), (ϕ 1), (ϕ 2), (ϕ 3), .int (zb true), .ref a_test, (ϕ 6), (ϕ 7), (ϕ 8), (ϕ 9), (ϕ 10), (ϕ 11), (ϕ 12), (ϕ 13), (ϕ 14), (ϕ 15), (ϕ 16), (ϕ 17), (ϕ 18), (ϕ 19), (ϕ 20), (ϕ 21), (ϕ 22), (ϕ 23), (ϕ 24), (ϕ 25), (ϕ 26), (ϕ 27), (ϕ 28), (ϕ 29), (ϕ 30), (ϕ 31), (ϕ 32), (ϕ 33), (ϕ 34), (ϕ 35), (ϕ 36), (ϕ 37), (ϕ 38), (ϕ 39), (ϕ 40), (ϕ 41), (ϕ 42), (ϕ 43)])), (a_test, .inl (cI, 3, .inl (upd te 0 (nI c0))))] H := hP
  have hD : va_D A [(o, .inr (9, [(ϕ 0), (ϕ 1), (ϕ 2), (ϕ 3), .int (zb true), .ref a_test, (ϕ 6), (ϕ 7), (ϕ 8), (ϕ 9), (ϕ 10), (ϕ 11), (ϕ 12), (ϕ 13), (ϕ 14), (ϕ 15), (ϕ 16), (ϕ 17), (ϕ 18), (ϕ 19), (ϕ 20), (ϕ 21), (ϕ 22), (ϕ 23), (ϕ 24), (ϕ 25), (ϕ 26), (ϕ 27), (ϕ 28), (ϕ 29), (ϕ 30), (ϕ 31), (ϕ 32), (ϕ 33), (ϕ 34), (ϕ 35), (ϕ 36), (ϕ 37), (ϕ 38), (ϕ 39), (ϕ 40), (ϕ 41), (ϕ 42), (ϕ 43)])), (a_test, .inl (cI, 3, .inl (upd te 0 (nI c0))))] := hD
  refine lv_aload_n hx hb d_Mo_filter_32 rfl (lv_at hl 0 rfl) ?_
  refine va_get (C := R_Mo) (T := F_Mo) (N := 44) hx hb hts (fun w h => List.mem_cons_of_mem _ (hin_Mo w h)) hown hK hP 0 rfl rfl 5 (by decide) (hts _ (List.mem_cons_of_mem _ fl_Mo_19)) (fun _ h => h) rfl d_Mo_filter_33 ?_
  refine lv_iconst (v := nI 1) hx hb d_Mo_filter_36 (by decide) ?_
  refine lv_iload_n hx hb d_Mo_filter_37 rfl (lv_at hl 2 rfl) ?_
  refine zk_iast hx hb hK hP hD hS 1 0 rfl rfl (by omega) (by omega) d_Mo_filter_38 (fun H locs hP hD hS => ?_)
  have hP : va_P D vwCl [(o, .inr (9, [(ϕ 0), (ϕ 1), (ϕ 2), (ϕ 3), .int (zb true), .ref a_test, (ϕ 6), (ϕ 7), (ϕ 8), (ϕ 9), (ϕ 10), (ϕ 11), (ϕ 12), (ϕ 13), (ϕ 14), (ϕ 15), (ϕ 16), (ϕ 17), (ϕ 18), (ϕ 19), (ϕ 20), (ϕ 21), (ϕ 22), (ϕ 23), (ϕ 24), (ϕ 25), (ϕ 26), (ϕ 27), (ϕ 28), (ϕ 29), (ϕ 30), (ϕ 31), (ϕ 32), (ϕ 33), (ϕ 34), (ϕ 35), (ϕ 36), (ϕ 37), (ϕ 38), (ϕ 39), (ϕ 40), (ϕ 41), (ϕ 42), (ϕ 43)])), (a_test, .inl (cI, 3, .inl (upd (upd te 0 (nI c0)) 1 y)))] H := hP
  have hD : va_D A [(o, .inr (9, [(ϕ 0), (ϕ 1), (ϕ 2), (ϕ 3), .int (zb true), .ref a_test, (ϕ 6), (ϕ 7), (ϕ 8), (ϕ 9), (ϕ 10), (ϕ 11), (ϕ 12), (ϕ 13), (ϕ 14), (ϕ 15), (ϕ 16), (ϕ 17), (ϕ 18), (ϕ 19), (ϕ 20), (ϕ 21), (ϕ 22), (ϕ 23), (ϕ 24), (ϕ 25), (ϕ 26), (ϕ 27), (ϕ 28), (ϕ 29), (ϕ 30), (ϕ 31), (ϕ 32), (ϕ 33), (ϕ 34), (ϕ 35), (ϕ 36), (ϕ 37), (ϕ 38), (ϕ 39), (ϕ 40), (ϕ 41), (ϕ 42), (ϕ 43)])), (a_test, .inl (cI, 3, .inl (upd (upd te 0 (nI c0)) 1 y)))] := hD
  refine lv_aload_n hx hb d_Mo_filter_39 rfl (lv_at hl 0 rfl) ?_
  refine va_get (C := R_Mo) (T := F_Mo) (N := 44) hx hb hts (fun w h => List.mem_cons_of_mem _ (hin_Mo w h)) hown hK hP 0 rfl rfl 5 (by decide) (hts _ (List.mem_cons_of_mem _ fl_Mo_19)) (fun _ h => h) rfl d_Mo_filter_40 ?_
  refine lv_iconst (v := nI 2) hx hb d_Mo_filter_43 (by decide) ?_
  refine lv_iload_n hx hb d_Mo_filter_44 rfl (lv_at hl 3 rfl) ?_
  refine zk_iast hx hb hK hP hD hS 1 0 rfl rfl (by omega) (by omega) d_Mo_filter_45 (fun H locs hP hD hS => ?_)
  have hP : va_P D vwCl [(o, .inr (9, [(ϕ 0), (ϕ 1), (ϕ 2), (ϕ 3), .int (zb true), .ref a_test, (ϕ 6), (ϕ 7), (ϕ 8), (ϕ 9), (ϕ 10), (ϕ 11), (ϕ 12), (ϕ 13), (ϕ 14), (ϕ 15), (ϕ 16), (ϕ 17), (ϕ 18), (ϕ 19), (ϕ 20), (ϕ 21), (ϕ 22), (ϕ 23), (ϕ 24), (ϕ 25), (ϕ 26), (ϕ 27), (ϕ 28), (ϕ 29), (ϕ 30), (ϕ 31), (ϕ 32), (ϕ 33), (ϕ 34), (ϕ 35), (ϕ 36), (ϕ 37), (ϕ 38), (ϕ 39), (ϕ 40), (ϕ 41), (ϕ 42), (ϕ 43)])), (a_test, .inl (cI, 3, .inl (upd (upd (upd te 0 (nI c0)) 1 y) 2 z)))] H := hP
  have hD : va_D A [(o, .inr (9, [(ϕ 0), (ϕ 1), (ϕ 2), (ϕ 3), .int (zb true), .ref a_test, (ϕ 6), (ϕ 7), (ϕ 8), (ϕ 9), (ϕ 10), (ϕ 11), (ϕ 12), (ϕ 13), (ϕ 14), (ϕ 15), (ϕ 16), (ϕ 17), (ϕ 18), (ϕ 19), (ϕ 20), (ϕ 21), (ϕ 22), (ϕ 23), (ϕ 24), (ϕ 25), (ϕ 26), (ϕ 27), (ϕ 28), (ϕ 29), (ϕ 30), (ϕ 31), (ϕ 32), (ϕ 33), (ϕ 34), (ϕ 35), (ϕ 36), (ϕ 37), (ϕ 38), (ϕ 39), (ϕ 40), (ϕ 41), (ϕ 42), (ϕ 43)])), (a_test, .inl (cI, 3, .inl (upd (upd (upd te 0 (nI c0)) 1 y) 2 z)))] := hD
  refine lv_iconst (v := zb true) hx hb d_Mo_filter_46 (by decide) ?_
  exact zk_zretW hx hb hr hlk hAe hQ hK (()) (rfl) hP hD hS d_Mo_filter_47
set_option maxHeartbeats 4000000 in
set_option maxRecDepth 100000 in
theorem c_Mo_join_b (l : Launch) (D : va_G) (cI cL cZ cW cR : ClassId) (o : Nat) (ϕ : Nat → Value) (x y : Int32) (hbad : (x < nI 0 ∨ nI 2 < x) ∨ (y < nI 0 ∨ nI 2 < y)) : Met l y_Mo_join ws_Mo_join rm1_30 (zPr D vwCl (zT cI cL cZ cW cR) [(o, .inr (9, [(ϕ 0), (ϕ 1), (ϕ 2), (ϕ 3), (ϕ 4), (ϕ 5), (ϕ 6), (ϕ 7), (ϕ 8), (ϕ 9), (ϕ 10), (ϕ 11), (ϕ 12), (ϕ 13), (ϕ 14), (ϕ 15), (ϕ 16), (ϕ 17), (ϕ 18), (ϕ 19), (ϕ 20), (ϕ 21), (ϕ 22), (ϕ 23), (ϕ 24), (ϕ 25), (ϕ 26), (ϕ 27), (ϕ 28), (ϕ 29), (ϕ 30), (ϕ 31), (ϕ 32), (ϕ 33), (ϕ 34), (ϕ 35), (ϕ 36), (ϕ 37), (ϕ 38), (ϕ 39), (ϕ 40), (ϕ 41), (ϕ 42), (ϕ 43)]))] [.ref o, .int x, .int y]) (zSi (zb false)) 0 0 (fun _ => False) := by
  refine zk_enterR (cc := b_Mo_join) (maxL := 3) (ret := some .boolean) (by decide) rfl (Nat.le_of_ble_eq_true rfl) ?_
  intro p e s m args below meth c ls Q hx hb hml hr hlk hown hts hP hK hN hl hQ
  have hl : lv_has ls 3 [(0, .ref o), (1, .int x), (2, .int y)] := hl
  refine lv_iload_n hx hb d_Mo_join_0 rfl (lv_at hl 1 rfl) ?_
  refine lv_iconst (v := nI 0) hx hb d_Mo_join_1 (by decide) ?_
  refine lv_iconst (v := nI 2) hx hb d_Mo_join_2 (by decide) ?_
  have hPc := hP.sub (ws' := []) [] rfl
  refine zk_ri (va_runS (As := [.int x, .int (nI 0), .int (nI 2)]) (rest := []) ⟨hx, hb, hml, hown, hts⟩ (c_Mo_outside l D cI cL cZ cW cR x (nI 0) (nI 2)) (cwS 3 hts (zk_gS (fun _ h => List.mem_cons_of_mem _ h) ml_Mo_81 sm_Mo_outside in_Mo co_Mo_outside) rfl rfl rfl ⟨rfl, hd_Mo_outside⟩ ⟨Nat.le_of_ble_eq_true rfl, Nat.le_of_ble_eq_true rfl⟩) (zk_sr hN hK hPc) rfl rfl hl.1 rfl (lv_room (Nat.le_of_ble_eq_true rfl)) d_Mo_join_3 ⟨Nat.zero_le _, Nat.zero_le _⟩) ?_
  refine zk_ifb_ne (tgt := 18) hx hb d_Mo_join_6 rfl (fun h6 => ?_) (fun h6 => ?_)
  · skip
    refine lv_iconst (v := zb false) hx hb d_Mo_join_18 (by decide) ?_
    exact zk_zretR hx hb hr hlk hQ (rfl) d_Mo_join_19
  · skip
    refine lv_iload_n hx hb d_Mo_join_9 rfl (lv_at hl 2 rfl) ?_
    refine lv_iconst (v := nI 0) hx hb d_Mo_join_10 (by decide) ?_
    refine lv_iconst (v := nI 2) hx hb d_Mo_join_11 (by decide) ?_
    have hPc := hP.sub (ws' := []) [] rfl
    refine zk_ri (va_runS (As := [.int y, .int (nI 0), .int (nI 2)]) (rest := []) ⟨hx, hb, hml, hown, hts⟩ (c_Mo_outside l D cI cL cZ cW cR y (nI 0) (nI 2)) (cwS 3 hts (zk_gS (fun _ h => List.mem_cons_of_mem _ h) ml_Mo_81 sm_Mo_outside in_Mo co_Mo_outside) rfl rfl rfl ⟨rfl, hd_Mo_outside⟩ ⟨Nat.le_of_ble_eq_true rfl, Nat.le_of_ble_eq_true rfl⟩) (zk_sr hN hK hPc) rfl rfl hl.1 rfl (lv_room (Nat.le_of_ble_eq_true rfl)) d_Mo_join_12 ⟨Nat.zero_le _, Nat.zero_le _⟩) ?_
    refine zk_ifb_eq (tgt := 20) hx hb d_Mo_join_15 rfl (fun hq => absurd hq (fun q => hbad.elim (of_decide_eq_false h6) (of_decide_eq_false q))) (fun _ => ?_)
    refine lv_iconst (v := zb false) hx hb d_Mo_join_18 (by decide) ?_
    exact zk_zretR hx hb hr hlk hQ (rfl) d_Mo_join_19
set_option maxHeartbeats 4000000 in
set_option maxRecDepth 100000 in
theorem c_Mo_join (l : Launch) (D : va_G) (cI cL cZ cW cR : ClassId) (sz : Nat) (o : Nat) (ϕ : Nat → Value) (jx jy : Nat) (jns : Bool) (x0 y0 : Nat) (hx0 : x0 < 3) (hy0 : y0 < 3) : Met l y_Mo_join ws_Mo_join rm1_30 (zPw D vwCl (zT cI cL cZ cW cR) [(o, .inr (9, [(ϕ 0), (ϕ 1), (ϕ 2), (ϕ 3), (ϕ 4), (ϕ 5), .int (zb jns), .int (nI jx), .int (nI jy), (ϕ 9), (ϕ 10), (ϕ 11), (ϕ 12), (ϕ 13), (ϕ 14), (ϕ 15), (ϕ 16), (ϕ 17), (ϕ 18), (ϕ 19), (ϕ 20), (ϕ 21), (ϕ 22), (ϕ 23), (ϕ 24), (ϕ 25), (ϕ 26), (ϕ 27), (ϕ 28), (ϕ 29), (ϕ 30), (ϕ 31), (ϕ 32), (ϕ 33), (ϕ 34), (ϕ 35), (ϕ 36), (ϕ 37), (ϕ 38), (ϕ 39), (ϕ 40), (ϕ 41), (ϕ 42), (ϕ 43)]))] sz [.ref o, .int (nI x0), .int (nI y0)]) (zQi D vwCl (zT cI cL cZ cW cR) [(o, .inr (9, [(ϕ 0), (ϕ 1), (ϕ 2), (ϕ 3), (ϕ 4), (ϕ 5), .int (zb jns), .int (nI jx), .int (nI jy), (ϕ 9), (ϕ 10), (ϕ 11), (ϕ 12), (ϕ 13), (ϕ 14), (ϕ 15), (ϕ 16), (ϕ 17), (ϕ 18), (ϕ 19), (ϕ 20), (ϕ 21), (ϕ 22), (ϕ 23), (ϕ 24), (ϕ 25), (ϕ 26), (ϕ 27), (ϕ 28), (ϕ 29), (ϕ 30), (ϕ 31), (ϕ 32), (ϕ 33), (ϕ 34), (ϕ 35), (ϕ 36), (ϕ 37), (ϕ 38), (ϕ 39), (ϕ 40), (ϕ 41), (ϕ 42), (ϕ 43)]))] sz (fun x (_ : Unit) => x = zb true) (fun _ => [(o, .inr (9, [(ϕ 0), (ϕ 1), (ϕ 2), (ϕ 3), (ϕ 4), (ϕ 5), .int (zb true), .int (nI x0), .int (nI y0), (ϕ 9), (ϕ 10), (ϕ 11), (ϕ 12), (ϕ 13), (ϕ 14), (ϕ 15), (ϕ 16), (ϕ 17), (ϕ 18), (ϕ 19), (ϕ 20), (ϕ 21), (ϕ 22), (ϕ 23), (ϕ 24), (ϕ 25), (ϕ 26), (ϕ 27), (ϕ 28), (ϕ 29), (ϕ 30), (ϕ 31), (ϕ 32), (ϕ 33), (ϕ 34), (ϕ 35), (ϕ 36), (ϕ 37), (ϕ 38), (ϕ 39), (ϕ 40), (ϕ 41), (ϕ 42), (ϕ 43)]))])) 0 0 (va_A [(o, .inr (9, [(ϕ 0), (ϕ 1), (ϕ 2), (ϕ 3), (ϕ 4), (ϕ 5), .int (zb jns), .int (nI jx), .int (nI jy), (ϕ 9), (ϕ 10), (ϕ 11), (ϕ 12), (ϕ 13), (ϕ 14), (ϕ 15), (ϕ 16), (ϕ 17), (ϕ 18), (ϕ 19), (ϕ 20), (ϕ 21), (ϕ 22), (ϕ 23), (ϕ 24), (ϕ 25), (ϕ 26), (ϕ 27), (ϕ 28), (ϕ 29), (ϕ 30), (ϕ 31), (ϕ 32), (ϕ 33), (ϕ 34), (ϕ 35), (ϕ 36), (ϕ 37), (ϕ 38), (ϕ 39), (ϕ 40), (ϕ 41), (ϕ 42), (ϕ 43)]))] sz) := by
  refine zk_enterW (cc := b_Mo_join) (maxL := 3) (ret := some .boolean) (by decide) rfl (Nat.le_of_ble_eq_true rfl) ?_
  intro p e s m args below meth c ls Q hx hb hml hr hlk hown hts hP hK hN hl hin hsz A hAe hA hD hS hQ
  subst hsz
  have hl : lv_has ls 3 [(0, .ref o), (1, .int (nI x0)), (2, .int (nI y0))] := hl
  refine lv_iload_n hx hb d_Mo_join_0 rfl (lv_at hl 1 rfl) ?_
  refine lv_iconst (v := nI 0) hx hb d_Mo_join_1 (by decide) ?_
  refine lv_iconst (v := nI 2) hx hb d_Mo_join_2 (by decide) ?_
  have hPc := hP.sub (ws' := []) [] rfl
  refine zk_ri (va_runS (As := [.int (nI x0), .int (nI 0), .int (nI 2)]) (rest := []) ⟨hx, hb, hml, hown, hts⟩ (c_Mo_outside l D cI cL cZ cW cR (nI x0) (nI 0) (nI 2)) (cwS 3 hts (zk_gS (fun _ h => List.mem_cons_of_mem _ h) ml_Mo_81 sm_Mo_outside in_Mo co_Mo_outside) rfl rfl rfl ⟨rfl, hd_Mo_outside⟩ ⟨Nat.le_of_ble_eq_true rfl, Nat.le_of_ble_eq_true rfl⟩) (zk_sr hN hK hPc) rfl rfl hl.1 rfl (lv_room (Nat.le_of_ble_eq_true rfl)) d_Mo_join_3 ⟨Nat.zero_le _, Nat.zero_le _⟩) ?_
  refine zk_ifb_ne (tgt := 18) hx hb d_Mo_join_6 rfl (fun hq => absurd hq (fun q => absurd (of_decide_eq_true q) (fun z => z.elim (nI_nlt (by omega) (by omega)) (nI_nlt (by omega) (by omega))))) (fun _ => ?_)
  refine lv_iload_n hx hb d_Mo_join_9 rfl (lv_at hl 2 rfl) ?_
  refine lv_iconst (v := nI 0) hx hb d_Mo_join_10 (by decide) ?_
  refine lv_iconst (v := nI 2) hx hb d_Mo_join_11 (by decide) ?_
  have hPc := hP.sub (ws' := []) [] rfl
  refine zk_ri (va_runS (As := [.int (nI y0), .int (nI 0), .int (nI 2)]) (rest := []) ⟨hx, hb, hml, hown, hts⟩ (c_Mo_outside l D cI cL cZ cW cR (nI y0) (nI 0) (nI 2)) (cwS 3 hts (zk_gS (fun _ h => List.mem_cons_of_mem _ h) ml_Mo_81 sm_Mo_outside in_Mo co_Mo_outside) rfl rfl rfl ⟨rfl, hd_Mo_outside⟩ ⟨Nat.le_of_ble_eq_true rfl, Nat.le_of_ble_eq_true rfl⟩) (zk_sr hN hK hPc) rfl rfl hl.1 rfl (lv_room (Nat.le_of_ble_eq_true rfl)) d_Mo_join_12 ⟨Nat.zero_le _, Nat.zero_le _⟩) ?_
  refine zk_ifb_eq (tgt := 20) hx hb d_Mo_join_15 rfl (fun _ => ?_) (fun hq => absurd hq (fun q => absurd (of_decide_eq_true q) (fun z => z.elim (nI_nlt (by omega) (by omega)) (nI_nlt (by omega) (by omega)))))
  refine lv_aload_n hx hb d_Mo_join_20 rfl (lv_at hl 0 rfl) ?_
  refine lv_iconst (v := zb true) hx hb d_Mo_join_21 (by decide) ?_
  refine va_put (D := D) (v := .int (zb true)) (ty := .boolean) (C := R_Mo) (T := F_Mo) (N := 44) hx hb hts (fun w h => List.mem_cons_of_mem _ (hin_Mo w h)) t_Mo t_Mo_ok n_Mo hown hK hP hD hS 0 rfl rfl 6 (by decide) (hts _ (List.mem_cons_of_mem _ fl_Mo_89)) (fun _ h => h) rfl (by decide +kernel) (zb_nar true) (zb_fit true) (Nat.le_of_ble_eq_true rfl) d_Mo_join_22 (fun H locs hP hD hS => ?_)
  have hP : va_P D vwCl [(o, .inr (9, [(ϕ 0), (ϕ 1), (ϕ 2), (ϕ 3), (ϕ 4), (ϕ 5), .int (zb true), .int (nI jx), .int (nI jy), (ϕ 9), (ϕ 10), (ϕ 11), (ϕ 12), (ϕ 13), (ϕ 14), (ϕ 15), (ϕ 16), (ϕ 17), (ϕ 18), (ϕ 19), (ϕ 20), (ϕ 21), (ϕ 22), (ϕ 23), (ϕ 24), (ϕ 25), (ϕ 26), (ϕ 27), (ϕ 28), (ϕ 29), (ϕ 30), (ϕ 31), (ϕ 32), (ϕ 33), (ϕ 34), (ϕ 35), (ϕ 36), (ϕ 37), (ϕ 38), (ϕ 39), (ϕ 40), (ϕ 41), (ϕ 42), (ϕ 43)]))] H := hP
  have hD : va_D A [(o, .inr (9, [(ϕ 0), (ϕ 1), (ϕ 2), (ϕ 3), (ϕ 4), (ϕ 5), .int (zb true), .int (nI jx), .int (nI jy), (ϕ 9), (ϕ 10), (ϕ 11), (ϕ 12), (ϕ 13), (ϕ 14), (ϕ 15), (ϕ 16), (ϕ 17), (ϕ 18), (ϕ 19), (ϕ 20), (ϕ 21), (ϕ 22), (ϕ 23), (ϕ 24), (ϕ 25), (ϕ 26), (ϕ 27), (ϕ 28), (ϕ 29), (ϕ 30), (ϕ 31), (ϕ 32), (ϕ 33), (ϕ 34), (ϕ 35), (ϕ 36), (ϕ 37), (ϕ 38), (ϕ 39), (ϕ 40), (ϕ 41), (ϕ 42), (ϕ 43)]))] := hD
  refine lv_aload_n hx hb d_Mo_join_25 rfl (lv_at hl 0 rfl) ?_
  refine lv_iload_n hx hb d_Mo_join_26 rfl (lv_at hl 1 rfl) ?_
  refine va_put (D := D) (v := .int (nI x0)) (ty := .int) (C := R_Mo) (T := F_Mo) (N := 44) hx hb hts (fun w h => List.mem_cons_of_mem _ (hin_Mo w h)) t_Mo t_Mo_ok n_Mo hown hK hP hD hS 0 rfl rfl 7 (by decide) (hts _ (List.mem_cons_of_mem _ fl_Mo_98)) (fun _ h => h) rfl (by decide +kernel) rfl rfl (Nat.le_of_ble_eq_true rfl) d_Mo_join_27 (fun H locs hP hD hS => ?_)
  have hP : va_P D vwCl [(o, .inr (9, [(ϕ 0), (ϕ 1), (ϕ 2), (ϕ 3), (ϕ 4), (ϕ 5), .int (zb true), .int (nI x0), .int (nI jy), (ϕ 9), (ϕ 10), (ϕ 11), (ϕ 12), (ϕ 13), (ϕ 14), (ϕ 15), (ϕ 16), (ϕ 17), (ϕ 18), (ϕ 19), (ϕ 20), (ϕ 21), (ϕ 22), (ϕ 23), (ϕ 24), (ϕ 25), (ϕ 26), (ϕ 27), (ϕ 28), (ϕ 29), (ϕ 30), (ϕ 31), (ϕ 32), (ϕ 33), (ϕ 34), (ϕ 35), (ϕ 36), (ϕ 37), (ϕ 38), (ϕ 39), (ϕ 40), (ϕ 41), (ϕ 42), (ϕ 43)]))] H := hP
  have hD : va_D A [(o, .inr (9, [(ϕ 0), (ϕ 1), (ϕ 2), (ϕ 3), (ϕ 4), (ϕ 5), .int (zb true), .int (nI x0), .int (nI jy), (ϕ 9), (ϕ 10), (ϕ 11), (ϕ 12), (ϕ 13), (ϕ 14), (ϕ 15), (ϕ 16), (ϕ 17), (ϕ 18), (ϕ 19), (ϕ 20), (ϕ 21), (ϕ 22), (ϕ 23), (ϕ 24), (ϕ 25), (ϕ 26), (ϕ 27), (ϕ 28), (ϕ 29), (ϕ 30), (ϕ 31), (ϕ 32), (ϕ 33), (ϕ 34), (ϕ 35), (ϕ 36), (ϕ 37), (ϕ 38), (ϕ 39), (ϕ 40), (ϕ 41), (ϕ 42), (ϕ 43)]))] := hD
  refine lv_aload_n hx hb d_Mo_join_30 rfl (lv_at hl 0 rfl) ?_
  refine lv_iload_n hx hb d_Mo_join_31 rfl (lv_at hl 2 rfl) ?_
  refine va_put (D := D) (v := .int (nI y0)) (ty := .int) (C := R_Mo) (T := F_Mo) (N := 44) hx hb hts (fun w h => List.mem_cons_of_mem _ (hin_Mo w h)) t_Mo t_Mo_ok n_Mo hown hK hP hD hS 0 rfl rfl 8 (by decide) (hts _ (List.mem_cons_of_mem _ fl_Mo_101)) (fun _ h => h) rfl (by decide +kernel) rfl rfl (Nat.le_of_ble_eq_true rfl) d_Mo_join_32 (fun H locs hP hD hS => ?_)
  have hP : va_P D vwCl [(o, .inr (9, [(ϕ 0), (ϕ 1), (ϕ 2), (ϕ 3), (ϕ 4), (ϕ 5), .int (zb true), .int (nI x0), .int (nI y0), (ϕ 9), (ϕ 10), (ϕ 11), (ϕ 12), (ϕ 13), (ϕ 14), (ϕ 15), (ϕ 16), (ϕ 17), (ϕ 18), (ϕ 19), (ϕ 20), (ϕ 21), (ϕ 22), (ϕ 23), (ϕ 24), (ϕ 25), (ϕ 26), (ϕ 27), (ϕ 28), (ϕ 29), (ϕ 30), (ϕ 31), (ϕ 32), (ϕ 33), (ϕ 34), (ϕ 35), (ϕ 36), (ϕ 37), (ϕ 38), (ϕ 39), (ϕ 40), (ϕ 41), (ϕ 42), (ϕ 43)]))] H := hP
  have hD : va_D A [(o, .inr (9, [(ϕ 0), (ϕ 1), (ϕ 2), (ϕ 3), (ϕ 4), (ϕ 5), .int (zb true), .int (nI x0), .int (nI y0), (ϕ 9), (ϕ 10), (ϕ 11), (ϕ 12), (ϕ 13), (ϕ 14), (ϕ 15), (ϕ 16), (ϕ 17), (ϕ 18), (ϕ 19), (ϕ 20), (ϕ 21), (ϕ 22), (ϕ 23), (ϕ 24), (ϕ 25), (ϕ 26), (ϕ 27), (ϕ 28), (ϕ 29), (ϕ 30), (ϕ 31), (ϕ 32), (ϕ 33), (ϕ 34), (ϕ 35), (ϕ 36), (ϕ 37), (ϕ 38), (ϕ 39), (ϕ 40), (ϕ 41), (ϕ 42), (ϕ 43)]))] := hD
  refine lv_iconst (v := zb true) hx hb d_Mo_join_35 (by decide) ?_
  exact zk_zretW hx hb hr hlk hAe hQ hK (()) (rfl) hP hD hS d_Mo_join_36
set_option maxHeartbeats 4000000 in
set_option maxRecDepth 100000 in
theorem c_Mo_order_b (l : Launch) (D : va_G) (cI cL cZ cW cR : ClassId) (o : Nat) (ϕ : Nat → Value) (x : Int32) (d0 : Bool) (hbad : x < nI 0 ∨ nI 8 < x) : Met l y_Mo_order ws_Mo_order rm1_30 (zPr D vwCl (zT cI cL cZ cW cR) [(o, .inr (9, [(ϕ 0), (ϕ 1), (ϕ 2), (ϕ 3), (ϕ 4), (ϕ 5), (ϕ 6), (ϕ 7), (ϕ 8), (ϕ 9), (ϕ 10), (ϕ 11), (ϕ 12), (ϕ 13), (ϕ 14), (ϕ 15), (ϕ 16), (ϕ 17), (ϕ 18), (ϕ 19), (ϕ 20), (ϕ 21), (ϕ 22), (ϕ 23), (ϕ 24), (ϕ 25), (ϕ 26), (ϕ 27), (ϕ 28), (ϕ 29), (ϕ 30), (ϕ 31), (ϕ 32), (ϕ 33), (ϕ 34), (ϕ 35), (ϕ 36), (ϕ 37), (ϕ 38), (ϕ 39), (ϕ 40), (ϕ 41), (ϕ 42), (ϕ 43)]))] [.ref o, .int x, .int (zb d0)]) (zSi (zb false)) 0 0 (fun _ => False) := by
  refine zk_enterR (cc := b_Mo_order) (maxL := 3) (ret := some .boolean) (by decide) rfl (Nat.le_of_ble_eq_true rfl) ?_
  intro p e s m args below meth c ls Q hx hb hml hr hlk hown hts hP hK hN hl hQ
  have hl : lv_has ls 3 [(0, .ref o), (1, .int x), (2, .int (zb d0))] := hl
  refine lv_iload_n hx hb d_Mo_order_0 rfl (lv_at hl 1 rfl) ?_
  refine lv_iconst (v := nI 0) hx hb d_Mo_order_1 (by decide) ?_
  refine lv_bipush (v := nI 8) hx hb d_Mo_order_2 (by decide) ?_
  have hPc := hP.sub (ws' := []) [] rfl
  refine zk_ri (va_runS (As := [.int x, .int (nI 0), .int (nI 8)]) (rest := []) ⟨hx, hb, hml, hown, hts⟩ (c_Mo_outside l D cI cL cZ cW cR x (nI 0) (nI 8)) (cwS 3 hts (zk_gS (fun _ h => List.mem_cons_of_mem _ h) ml_Mo_81 sm_Mo_outside in_Mo co_Mo_outside) rfl rfl rfl ⟨rfl, hd_Mo_outside⟩ ⟨Nat.le_of_ble_eq_true rfl, Nat.le_of_ble_eq_true rfl⟩) (zk_sr hN hK hPc) rfl rfl hl.1 rfl (lv_room (Nat.le_of_ble_eq_true rfl)) d_Mo_order_4 ⟨Nat.zero_le _, Nat.zero_le _⟩) ?_
  refine zk_ifb_eq (tgt := 12) hx hb d_Mo_order_7 rfl (fun hq => absurd hq (fun q => absurd (of_decide_eq_false q) (fun z => z hbad))) (fun _ => ?_)
  refine lv_iconst (v := zb false) hx hb d_Mo_order_10 (by decide) ?_
  exact zk_zretR hx hb hr hlk hQ (rfl) d_Mo_order_11
set_option maxHeartbeats 4000000 in
set_option maxRecDepth 100000 in
theorem c_Mo_order (l : Launch) (D : va_G) (cI cL cZ cW cR : ClassId) (sz : Nat) (o : Nat) (ϕ : Nat → Value) (oc : Nat) (ors od : Bool) (c0 : Nat) (d0 : Bool) (hc0 : c0 ≤ 8) : Met l y_Mo_order ws_Mo_order rm1_30 (zPw D vwCl (zT cI cL cZ cW cR) [(o, .inr (9, [(ϕ 0), (ϕ 1), (ϕ 2), (ϕ 3), (ϕ 4), (ϕ 5), (ϕ 6), (ϕ 7), (ϕ 8), (ϕ 9), (ϕ 10), (ϕ 11), (ϕ 12), (ϕ 13), (ϕ 14), (ϕ 15), (ϕ 16), (ϕ 17), (ϕ 18), .int (zb ors), .int (nI oc), .int (zb od), (ϕ 22), (ϕ 23), (ϕ 24), (ϕ 25), (ϕ 26), (ϕ 27), (ϕ 28), (ϕ 29), (ϕ 30), (ϕ 31), (ϕ 32), (ϕ 33), (ϕ 34), (ϕ 35), (ϕ 36), (ϕ 37), (ϕ 38), (ϕ 39), (ϕ 40), (ϕ 41), (ϕ 42), (ϕ 43)]))] sz [.ref o, .int (nI c0), .int (zb d0)]) (zQi D vwCl (zT cI cL cZ cW cR) [(o, .inr (9, [(ϕ 0), (ϕ 1), (ϕ 2), (ϕ 3), (ϕ 4), (ϕ 5), (ϕ 6), (ϕ 7), (ϕ 8), (ϕ 9), (ϕ 10), (ϕ 11), (ϕ 12), (ϕ 13), (ϕ 14), (ϕ 15), (ϕ 16), (ϕ 17), (ϕ 18), .int (zb ors), .int (nI oc), .int (zb od), (ϕ 22), (ϕ 23), (ϕ 24), (ϕ 25), (ϕ 26), (ϕ 27), (ϕ 28), (ϕ 29), (ϕ 30), (ϕ 31), (ϕ 32), (ϕ 33), (ϕ 34), (ϕ 35), (ϕ 36), (ϕ 37), (ϕ 38), (ϕ 39), (ϕ 40), (ϕ 41), (ϕ 42), (ϕ 43)]))] sz (fun x (_ : Unit) => x = zb true) (fun _ => [(o, .inr (9, [(ϕ 0), (ϕ 1), (ϕ 2), (ϕ 3), (ϕ 4), (ϕ 5), (ϕ 6), (ϕ 7), (ϕ 8), (ϕ 9), (ϕ 10), (ϕ 11), (ϕ 12), (ϕ 13), (ϕ 14), (ϕ 15), (ϕ 16), (ϕ 17), (ϕ 18), .int (zb true), .int (nI c0), .int (zb d0), (ϕ 22), (ϕ 23), (ϕ 24), (ϕ 25), (ϕ 26), (ϕ 27), (ϕ 28), (ϕ 29), (ϕ 30), (ϕ 31), (ϕ 32), (ϕ 33), (ϕ 34), (ϕ 35), (ϕ 36), (ϕ 37), (ϕ 38), (ϕ 39), (ϕ 40), (ϕ 41), (ϕ 42), (ϕ 43)]))])) 0 0 (va_A [(o, .inr (9, [(ϕ 0), (ϕ 1), (ϕ 2), (ϕ 3), (ϕ 4), (ϕ 5), (ϕ 6), (ϕ 7), (ϕ 8), (ϕ 9), (ϕ 10), (ϕ 11), (ϕ 12), (ϕ 13), (ϕ 14), (ϕ 15), (ϕ 16), (ϕ 17), (ϕ 18), .int (zb ors), .int (nI oc), .int (zb od), (ϕ 22), (ϕ 23), (ϕ 24), (ϕ 25), (ϕ 26), (ϕ 27), (ϕ 28), (ϕ 29), (ϕ 30), (ϕ 31), (ϕ 32), (ϕ 33), (ϕ 34), (ϕ 35), (ϕ 36), (ϕ 37), (ϕ 38), (ϕ 39), (ϕ 40), (ϕ 41), (ϕ 42), (ϕ 43)]))] sz) := by
  refine zk_enterW (cc := b_Mo_order) (maxL := 3) (ret := some .boolean) (by decide) rfl (Nat.le_of_ble_eq_true rfl) ?_
  intro p e s m args below meth c ls Q hx hb hml hr hlk hown hts hP hK hN hl hin hsz A hAe hA hD hS hQ
  subst hsz
  have hl : lv_has ls 3 [(0, .ref o), (1, .int (nI c0)), (2, .int (zb d0))] := hl
  refine lv_iload_n hx hb d_Mo_order_0 rfl (lv_at hl 1 rfl) ?_
  refine lv_iconst (v := nI 0) hx hb d_Mo_order_1 (by decide) ?_
  refine lv_bipush (v := nI 8) hx hb d_Mo_order_2 (by decide) ?_
  have hPc := hP.sub (ws' := []) [] rfl
  refine zk_ri (va_runS (As := [.int (nI c0), .int (nI 0), .int (nI 8)]) (rest := []) ⟨hx, hb, hml, hown, hts⟩ (c_Mo_outside l D cI cL cZ cW cR (nI c0) (nI 0) (nI 8)) (cwS 3 hts (zk_gS (fun _ h => List.mem_cons_of_mem _ h) ml_Mo_81 sm_Mo_outside in_Mo co_Mo_outside) rfl rfl rfl ⟨rfl, hd_Mo_outside⟩ ⟨Nat.le_of_ble_eq_true rfl, Nat.le_of_ble_eq_true rfl⟩) (zk_sr hN hK hPc) rfl rfl hl.1 rfl (lv_room (Nat.le_of_ble_eq_true rfl)) d_Mo_order_4 ⟨Nat.zero_le _, Nat.zero_le _⟩) ?_
  refine zk_ifb_eq (tgt := 12) hx hb d_Mo_order_7 rfl (fun _ => ?_) (fun hq => absurd hq (fun q => absurd (of_decide_eq_true q) (fun z => z.elim (nI_nlt (by omega) (by omega)) (nI_nlt (by omega) (by omega)))))
  refine lv_aload_n hx hb d_Mo_order_12 rfl (lv_at hl 0 rfl) ?_
  refine lv_iconst (v := zb true) hx hb d_Mo_order_13 (by decide) ?_
  refine va_put (D := D) (v := .int (zb true)) (ty := .boolean) (C := R_Mo) (T := F_Mo) (N := 44) hx hb hts (fun w h => List.mem_cons_of_mem _ (hin_Mo w h)) t_Mo t_Mo_ok n_Mo hown hK hP hD hS 0 rfl rfl 19 (by decide) (hts _ (List.mem_cons_of_mem _ fl_Mo_95)) (fun _ h => h) rfl (by decide +kernel) (zb_nar true) (zb_fit true) (Nat.le_of_ble_eq_true rfl) d_Mo_order_14 (fun H locs hP hD hS => ?_)
  have hP : va_P D vwCl [(o, .inr (9, [(ϕ 0), (ϕ 1), (ϕ 2), (ϕ 3), (ϕ 4), (ϕ 5), (ϕ 6), (ϕ 7), (ϕ 8), (ϕ 9), (ϕ 10), (ϕ 11), (ϕ 12), (ϕ 13), (ϕ 14), (ϕ 15), (ϕ 16), (ϕ 17), (ϕ 18), .int (zb true), .int (nI oc), .int (zb od), (ϕ 22), (ϕ 23), (ϕ 24), (ϕ 25), (ϕ 26), (ϕ 27), (ϕ 28), (ϕ 29), (ϕ 30), (ϕ 31), (ϕ 32), (ϕ 33), (ϕ 34), (ϕ 35), (ϕ 36), (ϕ 37), (ϕ 38), (ϕ 39), (ϕ 40), (ϕ 41), (ϕ 42), (ϕ 43)]))] H := hP
  have hD : va_D A [(o, .inr (9, [(ϕ 0), (ϕ 1), (ϕ 2), (ϕ 3), (ϕ 4), (ϕ 5), (ϕ 6), (ϕ 7), (ϕ 8), (ϕ 9), (ϕ 10), (ϕ 11), (ϕ 12), (ϕ 13), (ϕ 14), (ϕ 15), (ϕ 16), (ϕ 17), (ϕ 18), .int (zb true), .int (nI oc), .int (zb od), (ϕ 22), (ϕ 23), (ϕ 24), (ϕ 25), (ϕ 26), (ϕ 27), (ϕ 28), (ϕ 29), (ϕ 30), (ϕ 31), (ϕ 32), (ϕ 33), (ϕ 34), (ϕ 35), (ϕ 36), (ϕ 37), (ϕ 38), (ϕ 39), (ϕ 40), (ϕ 41), (ϕ 42), (ϕ 43)]))] := hD
  refine lv_aload_n hx hb d_Mo_order_17 rfl (lv_at hl 0 rfl) ?_
  refine lv_iload_n hx hb d_Mo_order_18 rfl (lv_at hl 1 rfl) ?_
  refine va_put (D := D) (v := .int (nI c0)) (ty := .int) (C := R_Mo) (T := F_Mo) (N := 44) hx hb hts (fun w h => List.mem_cons_of_mem _ (hin_Mo w h)) t_Mo t_Mo_ok n_Mo hown hK hP hD hS 0 rfl rfl 20 (by decide) (hts _ (List.mem_cons_of_mem _ fl_Mo_104)) (fun _ h => h) rfl (by decide +kernel) rfl rfl (Nat.le_of_ble_eq_true rfl) d_Mo_order_19 (fun H locs hP hD hS => ?_)
  have hP : va_P D vwCl [(o, .inr (9, [(ϕ 0), (ϕ 1), (ϕ 2), (ϕ 3), (ϕ 4), (ϕ 5), (ϕ 6), (ϕ 7), (ϕ 8), (ϕ 9), (ϕ 10), (ϕ 11), (ϕ 12), (ϕ 13), (ϕ 14), (ϕ 15), (ϕ 16), (ϕ 17), (ϕ 18), .int (zb true), .int (nI c0), .int (zb od), (ϕ 22), (ϕ 23), (ϕ 24), (ϕ 25), (ϕ 26), (ϕ 27), (ϕ 28), (ϕ 29), (ϕ 30), (ϕ 31), (ϕ 32), (ϕ 33), (ϕ 34), (ϕ 35), (ϕ 36), (ϕ 37), (ϕ 38), (ϕ 39), (ϕ 40), (ϕ 41), (ϕ 42), (ϕ 43)]))] H := hP
  have hD : va_D A [(o, .inr (9, [(ϕ 0), (ϕ 1), (ϕ 2), (ϕ 3), (ϕ 4), (ϕ 5), (ϕ 6), (ϕ 7), (ϕ 8), (ϕ 9), (ϕ 10), (ϕ 11), (ϕ 12), (ϕ 13), (ϕ 14), (ϕ 15), (ϕ 16), (ϕ 17), (ϕ 18), .int (zb true), .int (nI c0), .int (zb od), (ϕ 22), (ϕ 23), (ϕ 24), (ϕ 25), (ϕ 26), (ϕ 27), (ϕ 28), (ϕ 29), (ϕ 30), (ϕ 31), (ϕ 32), (ϕ 33), (ϕ 34), (ϕ 35), (ϕ 36), (ϕ 37), (ϕ 38), (ϕ 39), (ϕ 40), (ϕ 41), (ϕ 42), (ϕ 43)]))] := hD
  refine lv_aload_n hx hb d_Mo_order_22 rfl (lv_at hl 0 rfl) ?_
  refine lv_iload_n hx hb d_Mo_order_23 rfl (lv_at hl 2 rfl) ?_
  refine va_put (D := D) (v := .int (zb d0)) (ty := .boolean) (C := R_Mo) (T := F_Mo) (N := 44) hx hb hts (fun w h => List.mem_cons_of_mem _ (hin_Mo w h)) t_Mo t_Mo_ok n_Mo hown hK hP hD hS 0 rfl rfl 21 (by decide) (hts _ (List.mem_cons_of_mem _ fl_Mo_107)) (fun _ h => h) rfl (by decide +kernel) (zb_nar d0) (zb_fit d0) (Nat.le_of_ble_eq_true rfl) d_Mo_order_24 (fun H locs hP hD hS => ?_)
  have hP : va_P D vwCl [(o, .inr (9, [(ϕ 0), (ϕ 1), (ϕ 2), (ϕ 3), (ϕ 4), (ϕ 5), (ϕ 6), (ϕ 7), (ϕ 8), (ϕ 9), (ϕ 10), (ϕ 11), (ϕ 12), (ϕ 13), (ϕ 14), (ϕ 15), (ϕ 16), (ϕ 17), (ϕ 18), .int (zb true), .int (nI c0), .int (zb d0), (ϕ 22), (ϕ 23), (ϕ 24), (ϕ 25), (ϕ 26), (ϕ 27), (ϕ 28), (ϕ 29), (ϕ 30), (ϕ 31), (ϕ 32), (ϕ 33), (ϕ 34), (ϕ 35), (ϕ 36), (ϕ 37), (ϕ 38), (ϕ 39), (ϕ 40), (ϕ 41), (ϕ 42), (ϕ 43)]))] H := hP
  have hD : va_D A [(o, .inr (9, [(ϕ 0), (ϕ 1), (ϕ 2), (ϕ 3), (ϕ 4), (ϕ 5), (ϕ 6), (ϕ 7), (ϕ 8), (ϕ 9), (ϕ 10), (ϕ 11), (ϕ 12), (ϕ 13), (ϕ 14), (ϕ 15), (ϕ 16), (ϕ 17), (ϕ 18), .int (zb true), .int (nI c0), .int (zb d0), (ϕ 22), (ϕ 23), (ϕ 24), (ϕ 25), (ϕ 26), (ϕ 27), (ϕ 28), (ϕ 29), (ϕ 30), (ϕ 31), (ϕ 32), (ϕ 33), (ϕ 34), (ϕ 35), (ϕ 36), (ϕ 37), (ϕ 38), (ϕ 39), (ϕ 40), (ϕ 41), (ϕ 42), (ϕ 43)]))] := hD
  refine lv_iconst (v := zb true) hx hb d_Mo_order_27 (by decide) ?_
  exact zk_zretW hx hb hr hlk hAe hQ hK (()) (rfl) hP hD hS d_Mo_order_28
set_option maxHeartbeats 4000000 in
set_option maxRecDepth 100000 in
theorem c_Mo_window_b (l : Launch) (D : va_G) (cI cL cZ cW cR : ClassId) (o : Nat) (ϕ : Nat → Value) (x y z : Int32) (hbad : (x < nI 0 ∨ nI 11 < x) ∨ (y < nI 0 ∨ nI 5 < y) ∨ (z < nI 1 ∨ nI 9 < z)) : Met l y_Mo_window ws_Mo_window rm1_30 (zPr D vwCl (zT cI cL cZ cW cR) [(o, .inr (9, [(ϕ 0), (ϕ 1), (ϕ 2), (ϕ 3), (ϕ 4), (ϕ 5), (ϕ 6), (ϕ 7), (ϕ 8), (ϕ 9), (ϕ 10), (ϕ 11), (ϕ 12), (ϕ 13), (ϕ 14), (ϕ 15), (ϕ 16), (ϕ 17), (ϕ 18), (ϕ 19), (ϕ 20), (ϕ 21), (ϕ 22), (ϕ 23), (ϕ 24), (ϕ 25), (ϕ 26), (ϕ 27), (ϕ 28), (ϕ 29), (ϕ 30), (ϕ 31), (ϕ 32), (ϕ 33), (ϕ 34), (ϕ 35), (ϕ 36), (ϕ 37), (ϕ 38), (ϕ 39), (ϕ 40), (ϕ 41), (ϕ 42), (ϕ 43)]))] [.ref o, .int x, .int y, .int z]) (zSi (-1)) 0 0 (fun _ => False) := by
  refine zk_enterR (cc := b_Mo_window) (maxL := 4) (ret := some .int) (by decide) rfl (Nat.le_of_ble_eq_true rfl) ?_
  intro p e s m args below meth c ls Q hx hb hml hr hlk hown hts hP hK hN hl hQ
  have hl : lv_has ls 4 [(0, .ref o), (1, .int x), (2, .int y), (3, .int z)] := hl
  refine lv_iload_n hx hb d_Mo_window_0 rfl (lv_at hl 1 rfl) ?_
  refine lv_iconst (v := nI 0) hx hb d_Mo_window_1 (by decide) ?_
  refine lv_bipush (v := nI 11) hx hb d_Mo_window_2 (by decide) ?_
  have hPc := hP.sub (ws' := []) [] rfl
  refine zk_ri (va_runS (As := [.int x, .int (nI 0), .int (nI 11)]) (rest := []) ⟨hx, hb, hml, hown, hts⟩ (c_Mo_outside l D cI cL cZ cW cR x (nI 0) (nI 11)) (cwS 3 hts (zk_gS (fun _ h => List.mem_cons_of_mem _ h) ml_Mo_81 sm_Mo_outside in_Mo co_Mo_outside) rfl rfl rfl ⟨rfl, hd_Mo_outside⟩ ⟨Nat.le_of_ble_eq_true rfl, Nat.le_of_ble_eq_true rfl⟩) (zk_sr hN hK hPc) rfl rfl hl.1 rfl (lv_room (Nat.le_of_ble_eq_true rfl)) d_Mo_window_4 ⟨Nat.zero_le _, Nat.zero_le _⟩) ?_
  refine zk_ifb_ne (tgt := 37) hx hb d_Mo_window_7 rfl (fun h7 => ?_) (fun h7 => ?_)
  · skip
    refine lv_iconst (v := (-1)) hx hb d_Mo_window_37 (by decide) ?_
    exact zk_iretR hx hb hr hlk hQ (rfl) d_Mo_window_38
  · skip
    refine lv_iload_n hx hb d_Mo_window_10 rfl (lv_at hl 2 rfl) ?_
    refine lv_iconst (v := nI 0) hx hb d_Mo_window_11 (by decide) ?_
    refine lv_iconst (v := nI 5) hx hb d_Mo_window_12 (by decide) ?_
    have hPc := hP.sub (ws' := []) [] rfl
    refine zk_ri (va_runS (As := [.int y, .int (nI 0), .int (nI 5)]) (rest := []) ⟨hx, hb, hml, hown, hts⟩ (c_Mo_outside l D cI cL cZ cW cR y (nI 0) (nI 5)) (cwS 3 hts (zk_gS (fun _ h => List.mem_cons_of_mem _ h) ml_Mo_81 sm_Mo_outside in_Mo co_Mo_outside) rfl rfl rfl ⟨rfl, hd_Mo_outside⟩ ⟨Nat.le_of_ble_eq_true rfl, Nat.le_of_ble_eq_true rfl⟩) (zk_sr hN hK hPc) rfl rfl hl.1 rfl (lv_room (Nat.le_of_ble_eq_true rfl)) d_Mo_window_13 ⟨Nat.zero_le _, Nat.zero_le _⟩) ?_
    refine zk_ifb_ne (tgt := 37) hx hb d_Mo_window_16 rfl (fun h16 => ?_) (fun h16 => ?_)
    · skip
      refine lv_iconst (v := (-1)) hx hb d_Mo_window_37 (by decide) ?_
      exact zk_iretR hx hb hr hlk hQ (rfl) d_Mo_window_38
    · skip
      refine lv_iload_n hx hb d_Mo_window_19 rfl (lv_at hl 3 rfl) ?_
      refine lv_iconst (v := nI 1) hx hb d_Mo_window_20 (by decide) ?_
      refine lv_bipush (v := nI 9) hx hb d_Mo_window_21 (by decide) ?_
      have hPc := hP.sub (ws' := []) [] rfl
      refine zk_ri (va_runS (As := [.int z, .int (nI 1), .int (nI 9)]) (rest := []) ⟨hx, hb, hml, hown, hts⟩ (c_Mo_outside l D cI cL cZ cW cR z (nI 1) (nI 9)) (cwS 3 hts (zk_gS (fun _ h => List.mem_cons_of_mem _ h) ml_Mo_81 sm_Mo_outside in_Mo co_Mo_outside) rfl rfl rfl ⟨rfl, hd_Mo_outside⟩ ⟨Nat.le_of_ble_eq_true rfl, Nat.le_of_ble_eq_true rfl⟩) (zk_sr hN hK hPc) rfl rfl hl.1 rfl (lv_room (Nat.le_of_ble_eq_true rfl)) d_Mo_window_23 ⟨Nat.zero_le _, Nat.zero_le _⟩) ?_
      refine zk_ifb_ne (tgt := 37) hx hb d_Mo_window_26 rfl (fun _ => ?_) (fun hq => absurd hq (fun q => hbad.elim (of_decide_eq_false h7) (fun z => z.elim (of_decide_eq_false h16) (of_decide_eq_false q))))
      refine lv_iconst (v := (-1)) hx hb d_Mo_window_37 (by decide) ?_
      exact zk_iretR hx hb hr hlk hQ (rfl) d_Mo_window_38
set_option maxHeartbeats 4000000 in
set_option maxRecDepth 100000 in
theorem c_Mo_window_f (l : Launch) (D : va_G) (cI cL cZ cW cR : ClassId) (o : Nat) (ϕ : Nat → Value) (wc : Nat) (f0 a0 n0 : Nat) (hf0 : f0 < 12) (ha0 : a0 < 6) (hn0 : 1 ≤ n0) (hn1 : n0 ≤ 9) (hwc : 3 ≤ wc) (hwc2 : wc < 1000) : Met l y_Mo_window ws_Mo_window rm1_30 (zPr D vwCl (zT cI cL cZ cW cR) [(o, .inr (9, [(ϕ 0), (ϕ 1), (ϕ 2), (ϕ 3), (ϕ 4), (ϕ 5), (ϕ 6), (ϕ 7), (ϕ 8), .int (nI wc), (ϕ 10), (ϕ 11), (ϕ 12), (ϕ 13), (ϕ 14), (ϕ 15), (ϕ 16), (ϕ 17), (ϕ 18), (ϕ 19), (ϕ 20), (ϕ 21), (ϕ 22), (ϕ 23), (ϕ 24), (ϕ 25), (ϕ 26), (ϕ 27), (ϕ 28), (ϕ 29), (ϕ 30), (ϕ 31), (ϕ 32), (ϕ 33), (ϕ 34), (ϕ 35), (ϕ 36), (ϕ 37), (ϕ 38), (ϕ 39), (ϕ 40), (ϕ 41), (ϕ 42), (ϕ 43)]))] [.ref o, .int (nI f0), .int (nI a0), .int (nI n0)]) (zSi (-1)) 0 0 (fun _ => False) := by
  refine zk_enterR (cc := b_Mo_window) (maxL := 4) (ret := some .int) (by decide) rfl (Nat.le_of_ble_eq_true rfl) ?_
  intro p e s m args below meth c ls Q hx hb hml hr hlk hown hts hP hK hN hl hQ
  have hl : lv_has ls 4 [(0, .ref o), (1, .int (nI f0)), (2, .int (nI a0)), (3, .int (nI n0))] := hl
  refine lv_iload_n hx hb d_Mo_window_0 rfl (lv_at hl 1 rfl) ?_
  refine lv_iconst (v := nI 0) hx hb d_Mo_window_1 (by decide) ?_
  refine lv_bipush (v := nI 11) hx hb d_Mo_window_2 (by decide) ?_
  have hPc := hP.sub (ws' := []) [] rfl
  refine zk_ri (va_runS (As := [.int (nI f0), .int (nI 0), .int (nI 11)]) (rest := []) ⟨hx, hb, hml, hown, hts⟩ (c_Mo_outside l D cI cL cZ cW cR (nI f0) (nI 0) (nI 11)) (cwS 3 hts (zk_gS (fun _ h => List.mem_cons_of_mem _ h) ml_Mo_81 sm_Mo_outside in_Mo co_Mo_outside) rfl rfl rfl ⟨rfl, hd_Mo_outside⟩ ⟨Nat.le_of_ble_eq_true rfl, Nat.le_of_ble_eq_true rfl⟩) (zk_sr hN hK hPc) rfl rfl hl.1 rfl (lv_room (Nat.le_of_ble_eq_true rfl)) d_Mo_window_4 ⟨Nat.zero_le _, Nat.zero_le _⟩) ?_
  refine zk_ifb_ne (tgt := 37) hx hb d_Mo_window_7 rfl (fun hq => absurd hq (fun q => absurd (of_decide_eq_true q) (fun z => z.elim (nI_nlt (by omega) (by omega)) (nI_nlt (by omega) (by omega))))) (fun _ => ?_)
  refine lv_iload_n hx hb d_Mo_window_10 rfl (lv_at hl 2 rfl) ?_
  refine lv_iconst (v := nI 0) hx hb d_Mo_window_11 (by decide) ?_
  refine lv_iconst (v := nI 5) hx hb d_Mo_window_12 (by decide) ?_
  have hPc := hP.sub (ws' := []) [] rfl
  refine zk_ri (va_runS (As := [.int (nI a0), .int (nI 0), .int (nI 5)]) (rest := []) ⟨hx, hb, hml, hown, hts⟩ (c_Mo_outside l D cI cL cZ cW cR (nI a0) (nI 0) (nI 5)) (cwS 3 hts (zk_gS (fun _ h => List.mem_cons_of_mem _ h) ml_Mo_81 sm_Mo_outside in_Mo co_Mo_outside) rfl rfl rfl ⟨rfl, hd_Mo_outside⟩ ⟨Nat.le_of_ble_eq_true rfl, Nat.le_of_ble_eq_true rfl⟩) (zk_sr hN hK hPc) rfl rfl hl.1 rfl (lv_room (Nat.le_of_ble_eq_true rfl)) d_Mo_window_13 ⟨Nat.zero_le _, Nat.zero_le _⟩) ?_
  refine zk_ifb_ne (tgt := 37) hx hb d_Mo_window_16 rfl (fun hq => absurd hq (fun q => absurd (of_decide_eq_true q) (fun z => z.elim (nI_nlt (by omega) (by omega)) (nI_nlt (by omega) (by omega))))) (fun _ => ?_)
  refine lv_iload_n hx hb d_Mo_window_19 rfl (lv_at hl 3 rfl) ?_
  refine lv_iconst (v := nI 1) hx hb d_Mo_window_20 (by decide) ?_
  refine lv_bipush (v := nI 9) hx hb d_Mo_window_21 (by decide) ?_
  have hPc := hP.sub (ws' := []) [] rfl
  refine zk_ri (va_runS (As := [.int (nI n0), .int (nI 1), .int (nI 9)]) (rest := []) ⟨hx, hb, hml, hown, hts⟩ (c_Mo_outside l D cI cL cZ cW cR (nI n0) (nI 1) (nI 9)) (cwS 3 hts (zk_gS (fun _ h => List.mem_cons_of_mem _ h) ml_Mo_81 sm_Mo_outside in_Mo co_Mo_outside) rfl rfl rfl ⟨rfl, hd_Mo_outside⟩ ⟨Nat.le_of_ble_eq_true rfl, Nat.le_of_ble_eq_true rfl⟩) (zk_sr hN hK hPc) rfl rfl hl.1 rfl (lv_room (Nat.le_of_ble_eq_true rfl)) d_Mo_window_23 ⟨Nat.zero_le _, Nat.zero_le _⟩) ?_
  refine zk_ifb_ne (tgt := 37) hx hb d_Mo_window_26 rfl (fun hq => absurd hq (fun q => absurd (of_decide_eq_true q) (fun z => z.elim (nI_nlt (by omega) (by omega)) (nI_nlt (by omega) (by omega))))) (fun _ => ?_)
  refine lv_aload_n hx hb d_Mo_window_29 rfl (lv_at hl 0 rfl) ?_
  refine va_get (C := R_Mo) (T := F_Mo) (N := 44) hx hb hts (fun w h => List.mem_cons_of_mem _ (hin_Mo w h)) hown hK hP 0 rfl rfl 9 (by decide) (hts _ (List.mem_cons_of_mem _ fl_Mo_92)) (fun _ h => h) rfl d_Mo_window_30 ?_
  refine lv_iconst (v := nI 3) hx hb d_Mo_window_33 (by decide) ?_
  refine zk_icmp_lt (tgt := 39) hx hb d_Mo_window_34 rfl (by omega) (by omega) (fun hq => absurd hq (by omega)) (fun _ => ?_)
  refine lv_iconst (v := (-1)) hx hb d_Mo_window_37 (by decide) ?_
  exact zk_iretR hx hb hr hlk hQ (rfl) d_Mo_window_38
set_option maxHeartbeats 4000000 in
set_option maxRecDepth 100000 in
theorem c_Mo_window (l : Launch) (D : va_G) (cI cL cZ cW cR : ClassId) (sz : Nat) (o : Nat) (ϕ : Nat → Value) (a_wFunction a_wArgument a_wNumber a_wPart a_wOrder a_wDown a_wRange a_wLow a_wHigh : Nat) (wc : Nat) (wf : Nat → Nat) (wa : Nat → Nat) (wn : Nat → Nat) (po : Nat → Option Nat) (oo : Nat → Option Nat) (wd : Nat → Bool) (wg : Nat → Bool) (wl : Nat → Int32) (wh : Nat → Int32) (f0 a0 n0 : Nat) (hf0 : f0 < 12) (ha0 : a0 < 6) (hn0 : 1 ≤ n0) (hn1 : n0 ≤ 9) (hwc : wc < 3) : Met l y_Mo_window ws_Mo_window rm1_30 (zPw D vwCl (zT cI cL cZ cW cR) [(o, .inr (9, [(ϕ 0), (ϕ 1), (ϕ 2), (ϕ 3), (ϕ 4), (ϕ 5), (ϕ 6), (ϕ 7), (ϕ 8), .int (nI wc), .ref a_wFunction, .ref a_wArgument, .ref a_wNumber, .ref a_wPart, .ref a_wOrder, .ref a_wDown, .ref a_wRange, .ref a_wLow, .ref a_wHigh, (ϕ 19), (ϕ 20), (ϕ 21), (ϕ 22), (ϕ 23), (ϕ 24), (ϕ 25), (ϕ 26), (ϕ 27), (ϕ 28), (ϕ 29), (ϕ 30), (ϕ 31), (ϕ 32), (ϕ 33), (ϕ 34), (ϕ 35), (ϕ 36), (ϕ 37), (ϕ 38), (ϕ 39), (ϕ 40), (ϕ 41), (ϕ 42), (ϕ 43)])), (a_wFunction, .inl (cI, 3, .inl (zN wf))), (a_wArgument, .inl (cI, 3, .inl (zN wa))), (a_wNumber, .inl (cI, 3, .inl (zN wn))), (a_wPart, .inl (cI, 3, .inl (zO po))), (a_wOrder, .inl (cI, 3, .inl (zO oo))), (a_wDown, .inl (cZ, 3, .inl (zZ wd))), (a_wRange, .inl (cZ, 3, .inl (zZ wg))), (a_wLow, .inl (cI, 3, .inl wl)), (a_wHigh, .inl (cI, 3, .inl wh))] sz [.ref o, .int (nI f0), .int (nI a0), .int (nI n0)]) (zQi D vwCl (zT cI cL cZ cW cR) [(o, .inr (9, [(ϕ 0), (ϕ 1), (ϕ 2), (ϕ 3), (ϕ 4), (ϕ 5), (ϕ 6), (ϕ 7), (ϕ 8), .int (nI wc), .ref a_wFunction, .ref a_wArgument, .ref a_wNumber, .ref a_wPart, .ref a_wOrder, .ref a_wDown, .ref a_wRange, .ref a_wLow, .ref a_wHigh, (ϕ 19), (ϕ 20), (ϕ 21), (ϕ 22), (ϕ 23), (ϕ 24), (ϕ 25), (ϕ 26), (ϕ 27), (ϕ 28), (ϕ 29), (ϕ 30), (ϕ 31), (ϕ 32), (ϕ 33), (ϕ 34), (ϕ 35), (ϕ 36), (ϕ 37), (ϕ 38), (ϕ 39), (ϕ 40), (ϕ 41), (ϕ 42), (ϕ 43)])), (a_wFunction, .inl (cI, 3, .inl (zN wf))), (a_wArgument, .inl (cI, 3, .inl (zN wa))), (a_wNumber, .inl (cI, 3, .inl (zN wn))), (a_wPart, .inl (cI, 3, .inl (zO po))), (a_wOrder, .inl (cI, 3, .inl (zO oo))), (a_wDown, .inl (cZ, 3, .inl (zZ wd))), (a_wRange, .inl (cZ, 3, .inl (zZ wg))), (a_wLow, .inl (cI, 3, .inl wl)), (a_wHigh, .inl (cI, 3, .inl wh))] sz (fun x (_ : Unit) => x = nI wc) (fun _ => [(o, .inr (9, [(ϕ 0), (ϕ 1), (ϕ 2), (ϕ 3), (ϕ 4), (ϕ 5), (ϕ 6), (ϕ 7), (ϕ 8), .int (nI (wc + 1)), .ref a_wFunction, .ref a_wArgument, .ref a_wNumber, .ref a_wPart, .ref a_wOrder, .ref a_wDown, .ref a_wRange, .ref a_wLow, .ref a_wHigh, (ϕ 19), (ϕ 20), (ϕ 21), (ϕ 22), (ϕ 23), (ϕ 24), (ϕ 25), (ϕ 26), (ϕ 27), (ϕ 28), (ϕ 29), (ϕ 30), (ϕ 31), (ϕ 32), (ϕ 33), (ϕ 34), (ϕ 35), (ϕ 36), (ϕ 37), (ϕ 38), (ϕ 39), (ϕ 40), (ϕ 41), (ϕ 42), (ϕ 43)])), (a_wFunction, .inl (cI, 3, .inl (zN (va_up wf wc f0)))), (a_wArgument, .inl (cI, 3, .inl (zN (va_up wa wc a0)))), (a_wNumber, .inl (cI, 3, .inl (zN (va_up wn wc n0)))), (a_wPart, .inl (cI, 3, .inl (zO (va_up po wc none)))), (a_wOrder, .inl (cI, 3, .inl (zO (va_up oo wc none)))), (a_wDown, .inl (cZ, 3, .inl (zZ (va_up wd wc false)))), (a_wRange, .inl (cZ, 3, .inl (zZ (va_up wg wc false)))), (a_wLow, .inl (cI, 3, .inl (upd wl wc (-10)))), (a_wHigh, .inl (cI, 3, .inl (upd wh wc (nI 10))))])) 0 0 (va_A [(o, .inr (9, [(ϕ 0), (ϕ 1), (ϕ 2), (ϕ 3), (ϕ 4), (ϕ 5), (ϕ 6), (ϕ 7), (ϕ 8), .int (nI wc), .ref a_wFunction, .ref a_wArgument, .ref a_wNumber, .ref a_wPart, .ref a_wOrder, .ref a_wDown, .ref a_wRange, .ref a_wLow, .ref a_wHigh, (ϕ 19), (ϕ 20), (ϕ 21), (ϕ 22), (ϕ 23), (ϕ 24), (ϕ 25), (ϕ 26), (ϕ 27), (ϕ 28), (ϕ 29), (ϕ 30), (ϕ 31), (ϕ 32), (ϕ 33), (ϕ 34), (ϕ 35), (ϕ 36), (ϕ 37), (ϕ 38), (ϕ 39), (ϕ 40), (ϕ 41), (ϕ 42), (ϕ 43)])), (a_wFunction, .inl (cI, 3, .inl (zN wf))), (a_wArgument, .inl (cI, 3, .inl (zN wa))), (a_wNumber, .inl (cI, 3, .inl (zN wn))), (a_wPart, .inl (cI, 3, .inl (zO po))), (a_wOrder, .inl (cI, 3, .inl (zO oo))), (a_wDown, .inl (cZ, 3, .inl (zZ wd))), (a_wRange, .inl (cZ, 3, .inl (zZ wg))), (a_wLow, .inl (cI, 3, .inl wl)), (a_wHigh, .inl (cI, 3, .inl wh))] sz) := by
  refine zk_enterW (cc := b_Mo_window) (maxL := 4) (ret := some .int) (by decide) rfl (Nat.le_of_ble_eq_true rfl) ?_
  intro p e s m args below meth c ls Q hx hb hml hr hlk hown hts hP hK hN hl hin hsz A hAe hA hD hS hQ
  subst hsz
  have hl : lv_has ls 4 [(0, .ref o), (1, .int (nI f0)), (2, .int (nI a0)), (3, .int (nI n0))] := hl
  refine lv_iload_n hx hb d_Mo_window_0 rfl (lv_at hl 1 rfl) ?_
  refine lv_iconst (v := nI 0) hx hb d_Mo_window_1 (by decide) ?_
  refine lv_bipush (v := nI 11) hx hb d_Mo_window_2 (by decide) ?_
  have hPc := hP.sub (ws' := []) [] rfl
  refine zk_ri (va_runS (As := [.int (nI f0), .int (nI 0), .int (nI 11)]) (rest := []) ⟨hx, hb, hml, hown, hts⟩ (c_Mo_outside l D cI cL cZ cW cR (nI f0) (nI 0) (nI 11)) (cwS 3 hts (zk_gS (fun _ h => List.mem_cons_of_mem _ h) ml_Mo_81 sm_Mo_outside in_Mo co_Mo_outside) rfl rfl rfl ⟨rfl, hd_Mo_outside⟩ ⟨Nat.le_of_ble_eq_true rfl, Nat.le_of_ble_eq_true rfl⟩) (zk_sr hN hK hPc) rfl rfl hl.1 rfl (lv_room (Nat.le_of_ble_eq_true rfl)) d_Mo_window_4 ⟨Nat.zero_le _, Nat.zero_le _⟩) ?_
  refine zk_ifb_ne (tgt := 37) hx hb d_Mo_window_7 rfl (fun hq => absurd hq (fun q => absurd (of_decide_eq_true q) (fun z => z.elim (nI_nlt (by omega) (by omega)) (nI_nlt (by omega) (by omega))))) (fun _ => ?_)
  refine lv_iload_n hx hb d_Mo_window_10 rfl (lv_at hl 2 rfl) ?_
  refine lv_iconst (v := nI 0) hx hb d_Mo_window_11 (by decide) ?_
  refine lv_iconst (v := nI 5) hx hb d_Mo_window_12 (by decide) ?_
  have hPc := hP.sub (ws' := []) [] rfl
  refine zk_ri (va_runS (As := [.int (nI a0), .int (nI 0), .int (nI 5)]) (rest := []) ⟨hx, hb, hml, hown, hts⟩ (c_Mo_outside l D cI cL cZ cW cR (nI a0) (nI 0) (nI 5)) (cwS 3 hts (zk_gS (fun _ h => List.mem_cons_of_mem _ h) ml_Mo_81 sm_Mo_outside in_Mo co_Mo_outside) rfl rfl rfl ⟨rfl, hd_Mo_outside⟩ ⟨Nat.le_of_ble_eq_true rfl, Nat.le_of_ble_eq_true rfl⟩) (zk_sr hN hK hPc) rfl rfl hl.1 rfl (lv_room (Nat.le_of_ble_eq_true rfl)) d_Mo_window_13 ⟨Nat.zero_le _, Nat.zero_le _⟩) ?_
  refine zk_ifb_ne (tgt := 37) hx hb d_Mo_window_16 rfl (fun hq => absurd hq (fun q => absurd (of_decide_eq_true q) (fun z => z.elim (nI_nlt (by omega) (by omega)) (nI_nlt (by omega) (by omega))))) (fun _ => ?_)
  refine lv_iload_n hx hb d_Mo_window_19 rfl (lv_at hl 3 rfl) ?_
  refine lv_iconst (v := nI 1) hx hb d_Mo_window_20 (by decide) ?_
  refine lv_bipush (v := nI 9) hx hb d_Mo_window_21 (by decide) ?_
  have hPc := hP.sub (ws' := []) [] rfl
  refine zk_ri (va_runS (As := [.int (nI n0), .int (nI 1), .int (nI 9)]) (rest := []) ⟨hx, hb, hml, hown, hts⟩ (c_Mo_outside l D cI cL cZ cW cR (nI n0) (nI 1) (nI 9)) (cwS 3 hts (zk_gS (fun _ h => List.mem_cons_of_mem _ h) ml_Mo_81 sm_Mo_outside in_Mo co_Mo_outside) rfl rfl rfl ⟨rfl, hd_Mo_outside⟩ ⟨Nat.le_of_ble_eq_true rfl, Nat.le_of_ble_eq_true rfl⟩) (zk_sr hN hK hPc) rfl rfl hl.1 rfl (lv_room (Nat.le_of_ble_eq_true rfl)) d_Mo_window_23 ⟨Nat.zero_le _, Nat.zero_le _⟩) ?_
  refine zk_ifb_ne (tgt := 37) hx hb d_Mo_window_26 rfl (fun hq => absurd hq (fun q => absurd (of_decide_eq_true q) (fun z => z.elim (nI_nlt (by omega) (by omega)) (nI_nlt (by omega) (by omega))))) (fun _ => ?_)
  refine lv_aload_n hx hb d_Mo_window_29 rfl (lv_at hl 0 rfl) ?_
  refine va_get (C := R_Mo) (T := F_Mo) (N := 44) hx hb hts (fun w h => List.mem_cons_of_mem _ (hin_Mo w h)) hown hK hP 0 rfl rfl 9 (by decide) (hts _ (List.mem_cons_of_mem _ fl_Mo_92)) (fun _ h => h) rfl d_Mo_window_30 ?_
  refine lv_iconst (v := nI 3) hx hb d_Mo_window_33 (by decide) ?_
  refine zk_icmp_lt (tgt := 39) hx hb d_Mo_window_34 rfl (by omega) (by omega) (fun _ => ?_) (fun hq => absurd hq (by omega))
  refine lv_aload_n hx hb d_Mo_window_39 rfl (lv_at hl 0 rfl) ?_
  refine va_get (C := R_Mo) (T := F_Mo) (N := 44) hx hb hts (fun w h => List.mem_cons_of_mem _ (hin_Mo w h)) hown hK hP 0 rfl rfl 10 (by decide) (hts _ (List.mem_cons_of_mem _ fl_Mo_22)) (fun _ h => h) rfl d_Mo_window_40 ?_
  refine lv_aload_n hx hb d_Mo_window_43 rfl (lv_at hl 0 rfl) ?_
  refine va_get (C := R_Mo) (T := F_Mo) (N := 44) hx hb hts (fun w h => List.mem_cons_of_mem _ (hin_Mo w h)) hown hK hP 0 rfl rfl 9 (by decide) (hts _ (List.mem_cons_of_mem _ fl_Mo_92)) (fun _ h => h) rfl d_Mo_window_44 ?_
  refine lv_iload_n hx hb d_Mo_window_47 rfl (lv_at hl 1 rfl) ?_
  refine zk_nast hx hb hK hP hD hS 1 0 rfl rfl (by omega) (by omega) d_Mo_window_48 (fun H locs hP hD hS => ?_)
  have hP : va_P D vwCl [(o, .inr (9, [(ϕ 0), (ϕ 1), (ϕ 2), (ϕ 3), (ϕ 4), (ϕ 5), (ϕ 6), (ϕ 7), (ϕ 8), .int (nI wc), .ref a_wFunction, .ref a_wArgument, .ref a_wNumber, .ref a_wPart, .ref a_wOrder, .ref a_wDown, .ref a_wRange, .ref a_wLow, .ref a_wHigh, (ϕ 19), (ϕ 20), (ϕ 21), (ϕ 22), (ϕ 23), (ϕ 24), (ϕ 25), (ϕ 26), (ϕ 27), (ϕ 28), (ϕ 29), (ϕ 30), (ϕ 31), (ϕ 32), (ϕ 33), (ϕ 34), (ϕ 35), (ϕ 36), (ϕ 37), (ϕ 38), (ϕ 39), (ϕ 40), (ϕ 41), (ϕ 42), (ϕ 43)])), (a_wFunction, .inl (cI, 3, .inl (zN (va_up wf wc f0)))), (a_wArgument, .inl (cI, 3, .inl (zN wa))), (a_wNumber, .inl (cI, 3, .inl (zN wn))), (a_wPart, .inl (cI, 3, .inl (zO po))), (a_wOrder, .inl (cI, 3, .inl (zO oo))), (a_wDown, .inl (cZ, 3, .inl (zZ wd))), (a_wRange, .inl (cZ, 3, .inl (zZ wg))), (a_wLow, .inl (cI, 3, .inl wl)), (a_wHigh, .inl (cI, 3, .inl wh))] H := hP
  have hD : va_D A [(o, .inr (9, [(ϕ 0), (ϕ 1), (ϕ 2), (ϕ 3), (ϕ 4), (ϕ 5), (ϕ 6), (ϕ 7), (ϕ 8), .int (nI wc), .ref a_wFunction, .ref a_wArgument, .ref a_wNumber, .ref a_wPart, .ref a_wOrder, .ref a_wDown, .ref a_wRange, .ref a_wLow, .ref a_wHigh, (ϕ 19), (ϕ 20), (ϕ 21), (ϕ 22), (ϕ 23), (ϕ 24), (ϕ 25), (ϕ 26), (ϕ 27), (ϕ 28), (ϕ 29), (ϕ 30), (ϕ 31), (ϕ 32), (ϕ 33), (ϕ 34), (ϕ 35), (ϕ 36), (ϕ 37), (ϕ 38), (ϕ 39), (ϕ 40), (ϕ 41), (ϕ 42), (ϕ 43)])), (a_wFunction, .inl (cI, 3, .inl (zN (va_up wf wc f0)))), (a_wArgument, .inl (cI, 3, .inl (zN wa))), (a_wNumber, .inl (cI, 3, .inl (zN wn))), (a_wPart, .inl (cI, 3, .inl (zO po))), (a_wOrder, .inl (cI, 3, .inl (zO oo))), (a_wDown, .inl (cZ, 3, .inl (zZ wd))), (a_wRange, .inl (cZ, 3, .inl (zZ wg))), (a_wLow, .inl (cI, 3, .inl wl)), (a_wHigh, .inl (cI, 3, .inl wh))] := hD
  refine lv_aload_n hx hb d_Mo_window_49 rfl (lv_at hl 0 rfl) ?_
  refine va_get (C := R_Mo) (T := F_Mo) (N := 44) hx hb hts (fun w h => List.mem_cons_of_mem _ (hin_Mo w h)) hown hK hP 0 rfl rfl 11 (by decide) (hts _ (List.mem_cons_of_mem _ fl_Mo_25)) (fun _ h => h) rfl d_Mo_window_50 ?_
  refine lv_aload_n hx hb d_Mo_window_53 rfl (lv_at hl 0 rfl) ?_
  refine va_get (C := R_Mo) (T := F_Mo) (N := 44) hx hb hts (fun w h => List.mem_cons_of_mem _ (hin_Mo w h)) hown hK hP 0 rfl rfl 9 (by decide) (hts _ (List.mem_cons_of_mem _ fl_Mo_92)) (fun _ h => h) rfl d_Mo_window_54 ?_
  refine lv_iload_n hx hb d_Mo_window_57 rfl (lv_at hl 2 rfl) ?_
  refine zk_nast hx hb hK hP hD hS 2 0 rfl rfl (by omega) (by omega) d_Mo_window_58 (fun H locs hP hD hS => ?_)
  have hP : va_P D vwCl [(o, .inr (9, [(ϕ 0), (ϕ 1), (ϕ 2), (ϕ 3), (ϕ 4), (ϕ 5), (ϕ 6), (ϕ 7), (ϕ 8), .int (nI wc), .ref a_wFunction, .ref a_wArgument, .ref a_wNumber, .ref a_wPart, .ref a_wOrder, .ref a_wDown, .ref a_wRange, .ref a_wLow, .ref a_wHigh, (ϕ 19), (ϕ 20), (ϕ 21), (ϕ 22), (ϕ 23), (ϕ 24), (ϕ 25), (ϕ 26), (ϕ 27), (ϕ 28), (ϕ 29), (ϕ 30), (ϕ 31), (ϕ 32), (ϕ 33), (ϕ 34), (ϕ 35), (ϕ 36), (ϕ 37), (ϕ 38), (ϕ 39), (ϕ 40), (ϕ 41), (ϕ 42), (ϕ 43)])), (a_wFunction, .inl (cI, 3, .inl (zN (va_up wf wc f0)))), (a_wArgument, .inl (cI, 3, .inl (zN (va_up wa wc a0)))), (a_wNumber, .inl (cI, 3, .inl (zN wn))), (a_wPart, .inl (cI, 3, .inl (zO po))), (a_wOrder, .inl (cI, 3, .inl (zO oo))), (a_wDown, .inl (cZ, 3, .inl (zZ wd))), (a_wRange, .inl (cZ, 3, .inl (zZ wg))), (a_wLow, .inl (cI, 3, .inl wl)), (a_wHigh, .inl (cI, 3, .inl wh))] H := hP
  have hD : va_D A [(o, .inr (9, [(ϕ 0), (ϕ 1), (ϕ 2), (ϕ 3), (ϕ 4), (ϕ 5), (ϕ 6), (ϕ 7), (ϕ 8), .int (nI wc), .ref a_wFunction, .ref a_wArgument, .ref a_wNumber, .ref a_wPart, .ref a_wOrder, .ref a_wDown, .ref a_wRange, .ref a_wLow, .ref a_wHigh, (ϕ 19), (ϕ 20), (ϕ 21), (ϕ 22), (ϕ 23), (ϕ 24), (ϕ 25), (ϕ 26), (ϕ 27), (ϕ 28), (ϕ 29), (ϕ 30), (ϕ 31), (ϕ 32), (ϕ 33), (ϕ 34), (ϕ 35), (ϕ 36), (ϕ 37), (ϕ 38), (ϕ 39), (ϕ 40), (ϕ 41), (ϕ 42), (ϕ 43)])), (a_wFunction, .inl (cI, 3, .inl (zN (va_up wf wc f0)))), (a_wArgument, .inl (cI, 3, .inl (zN (va_up wa wc a0)))), (a_wNumber, .inl (cI, 3, .inl (zN wn))), (a_wPart, .inl (cI, 3, .inl (zO po))), (a_wOrder, .inl (cI, 3, .inl (zO oo))), (a_wDown, .inl (cZ, 3, .inl (zZ wd))), (a_wRange, .inl (cZ, 3, .inl (zZ wg))), (a_wLow, .inl (cI, 3, .inl wl)), (a_wHigh, .inl (cI, 3, .inl wh))] := hD
  refine lv_aload_n hx hb d_Mo_window_59 rfl (lv_at hl 0 rfl) ?_
  refine va_get (C := R_Mo) (T := F_Mo) (N := 44) hx hb hts (fun w h => List.mem_cons_of_mem _ (hin_Mo w h)) hown hK hP 0 rfl rfl 12 (by decide) (hts _ (List.mem_cons_of_mem _ fl_Mo_28)) (fun _ h => h) rfl d_Mo_window_60 ?_
  refine lv_aload_n hx hb d_Mo_window_63 rfl (lv_at hl 0 rfl) ?_
  refine va_get (C := R_Mo) (T := F_Mo) (N := 44) hx hb hts (fun w h => List.mem_cons_of_mem _ (hin_Mo w h)) hown hK hP 0 rfl rfl 9 (by decide) (hts _ (List.mem_cons_of_mem _ fl_Mo_92)) (fun _ h => h) rfl d_Mo_window_64 ?_
  refine lv_iload_n hx hb d_Mo_window_67 rfl (lv_at hl 3 rfl) ?_
  refine zk_nast hx hb hK hP hD hS 3 0 rfl rfl (by omega) (by omega) d_Mo_window_68 (fun H locs hP hD hS => ?_)
  have hP : va_P D vwCl [(o, .inr (9, [(ϕ 0), (ϕ 1), (ϕ 2), (ϕ 3), (ϕ 4), (ϕ 5), (ϕ 6), (ϕ 7), (ϕ 8), .int (nI wc), .ref a_wFunction, .ref a_wArgument, .ref a_wNumber, .ref a_wPart, .ref a_wOrder, .ref a_wDown, .ref a_wRange, .ref a_wLow, .ref a_wHigh, (ϕ 19), (ϕ 20), (ϕ 21), (ϕ 22), (ϕ 23), (ϕ 24), (ϕ 25), (ϕ 26), (ϕ 27), (ϕ 28), (ϕ 29), (ϕ 30), (ϕ 31), (ϕ 32), (ϕ 33), (ϕ 34), (ϕ 35), (ϕ 36), (ϕ 37), (ϕ 38), (ϕ 39), (ϕ 40), (ϕ 41), (ϕ 42), (ϕ 43)])), (a_wFunction, .inl (cI, 3, .inl (zN (va_up wf wc f0)))), (a_wArgument, .inl (cI, 3, .inl (zN (va_up wa wc a0)))), (a_wNumber, .inl (cI, 3, .inl (zN (va_up wn wc n0)))), (a_wPart, .inl (cI, 3, .inl (zO po))), (a_wOrder, .inl (cI, 3, .inl (zO oo))), (a_wDown, .inl (cZ, 3, .inl (zZ wd))), (a_wRange, .inl (cZ, 3, .inl (zZ wg))), (a_wLow, .inl (cI, 3, .inl wl)), (a_wHigh, .inl (cI, 3, .inl wh))] H := hP
  have hD : va_D A [(o, .inr (9, [(ϕ 0), (ϕ 1), (ϕ 2), (ϕ 3), (ϕ 4), (ϕ 5), (ϕ 6), (ϕ 7), (ϕ 8), .int (nI wc), .ref a_wFunction, .ref a_wArgument, .ref a_wNumber, .ref a_wPart, .ref a_wOrder, .ref a_wDown, .ref a_wRange, .ref a_wLow, .ref a_wHigh, (ϕ 19), (ϕ 20), (ϕ 21), (ϕ 22), (ϕ 23), (ϕ 24), (ϕ 25), (ϕ 26), (ϕ 27), (ϕ 28), (ϕ 29), (ϕ 30), (ϕ 31), (ϕ 32), (ϕ 33), (ϕ 34), (ϕ 35), (ϕ 36), (ϕ 37), (ϕ 38), (ϕ 39), (ϕ 40), (ϕ 41), (ϕ 42), (ϕ 43)])), (a_wFunction, .inl (cI, 3, .inl (zN (va_up wf wc f0)))), (a_wArgument, .inl (cI, 3, .inl (zN (va_up wa wc a0)))), (a_wNumber, .inl (cI, 3, .inl (zN (va_up wn wc n0)))), (a_wPart, .inl (cI, 3, .inl (zO po))), (a_wOrder, .inl (cI, 3, .inl (zO oo))), (a_wDown, .inl (cZ, 3, .inl (zZ wd))), (a_wRange, .inl (cZ, 3, .inl (zZ wg))), (a_wLow, .inl (cI, 3, .inl wl)), (a_wHigh, .inl (cI, 3, .inl wh))] := hD
  refine lv_aload_n hx hb d_Mo_window_69 rfl (lv_at hl 0 rfl) ?_
  refine va_get (C := R_Mo) (T := F_Mo) (N := 44) hx hb hts (fun w h => List.mem_cons_of_mem _ (hin_Mo w h)) hown hK hP 0 rfl rfl 13 (by decide) (hts _ (List.mem_cons_of_mem _ fl_Mo_31)) (fun _ h => h) rfl d_Mo_window_70 ?_
  refine lv_aload_n hx hb d_Mo_window_73 rfl (lv_at hl 0 rfl) ?_
  refine va_get (C := R_Mo) (T := F_Mo) (N := 44) hx hb hts (fun w h => List.mem_cons_of_mem _ (hin_Mo w h)) hown hK hP 0 rfl rfl 9 (by decide) (hts _ (List.mem_cons_of_mem _ fl_Mo_92)) (fun _ h => h) rfl d_Mo_window_74 ?_
  refine lv_iconst (v := (-1)) hx hb d_Mo_window_77 (by decide) ?_
  refine zk_oast (x := none) hx hb hK hP hD hS 4 0 rfl rfl (by omega) (by omega) d_Mo_window_78 (fun H locs hP hD hS => ?_)
  have hP : va_P D vwCl [(o, .inr (9, [(ϕ 0), (ϕ 1), (ϕ 2), (ϕ 3), (ϕ 4), (ϕ 5), (ϕ 6), (ϕ 7), (ϕ 8), .int (nI wc), .ref a_wFunction, .ref a_wArgument, .ref a_wNumber, .ref a_wPart, .ref a_wOrder, .ref a_wDown, .ref a_wRange, .ref a_wLow, .ref a_wHigh, (ϕ 19), (ϕ 20), (ϕ 21), (ϕ 22), (ϕ 23), (ϕ 24), (ϕ 25), (ϕ 26), (ϕ 27), (ϕ 28), (ϕ 29), (ϕ 30), (ϕ 31), (ϕ 32), (ϕ 33), (ϕ 34), (ϕ 35), (ϕ 36), (ϕ 37), (ϕ 38), (ϕ 39), (ϕ 40), (ϕ 41), (ϕ 42), (ϕ 43)])), (a_wFunction, .inl (cI, 3, .inl (zN (va_up wf wc f0)))), (a_wArgument, .inl (cI, 3, .inl (zN (va_up wa wc a0)))), (a_wNumber, .inl (cI, 3, .inl (zN (va_up wn wc n0)))), (a_wPart, .inl (cI, 3, .inl (zO (va_up po wc none)))), (a_wOrder, .inl (cI, 3, .inl (zO oo))), (a_wDown, .inl (cZ, 3, .inl (zZ wd))), (a_wRange, .inl (cZ, 3, .inl (zZ wg))), (a_wLow, .inl (cI, 3, .inl wl)), (a_wHigh, .inl (cI, 3, .inl wh))] H := hP
  have hD : va_D A [(o, .inr (9, [(ϕ 0), (ϕ 1), (ϕ 2), (ϕ 3), (ϕ 4), (ϕ 5), (ϕ 6), (ϕ 7), (ϕ 8), .int (nI wc), .ref a_wFunction, .ref a_wArgument, .ref a_wNumber, .ref a_wPart, .ref a_wOrder, .ref a_wDown, .ref a_wRange, .ref a_wLow, .ref a_wHigh, (ϕ 19), (ϕ 20), (ϕ 21), (ϕ 22), (ϕ 23), (ϕ 24), (ϕ 25), (ϕ 26), (ϕ 27), (ϕ 28), (ϕ 29), (ϕ 30), (ϕ 31), (ϕ 32), (ϕ 33), (ϕ 34), (ϕ 35), (ϕ 36), (ϕ 37), (ϕ 38), (ϕ 39), (ϕ 40), (ϕ 41), (ϕ 42), (ϕ 43)])), (a_wFunction, .inl (cI, 3, .inl (zN (va_up wf wc f0)))), (a_wArgument, .inl (cI, 3, .inl (zN (va_up wa wc a0)))), (a_wNumber, .inl (cI, 3, .inl (zN (va_up wn wc n0)))), (a_wPart, .inl (cI, 3, .inl (zO (va_up po wc none)))), (a_wOrder, .inl (cI, 3, .inl (zO oo))), (a_wDown, .inl (cZ, 3, .inl (zZ wd))), (a_wRange, .inl (cZ, 3, .inl (zZ wg))), (a_wLow, .inl (cI, 3, .inl wl)), (a_wHigh, .inl (cI, 3, .inl wh))] := hD
  refine lv_aload_n hx hb d_Mo_window_79 rfl (lv_at hl 0 rfl) ?_
  refine va_get (C := R_Mo) (T := F_Mo) (N := 44) hx hb hts (fun w h => List.mem_cons_of_mem _ (hin_Mo w h)) hown hK hP 0 rfl rfl 14 (by decide) (hts _ (List.mem_cons_of_mem _ fl_Mo_34)) (fun _ h => h) rfl d_Mo_window_80 ?_
  refine lv_aload_n hx hb d_Mo_window_83 rfl (lv_at hl 0 rfl) ?_
  refine va_get (C := R_Mo) (T := F_Mo) (N := 44) hx hb hts (fun w h => List.mem_cons_of_mem _ (hin_Mo w h)) hown hK hP 0 rfl rfl 9 (by decide) (hts _ (List.mem_cons_of_mem _ fl_Mo_92)) (fun _ h => h) rfl d_Mo_window_84 ?_
  refine lv_iconst (v := (-1)) hx hb d_Mo_window_87 (by decide) ?_
  refine zk_oast (x := none) hx hb hK hP hD hS 5 0 rfl rfl (by omega) (by omega) d_Mo_window_88 (fun H locs hP hD hS => ?_)
  have hP : va_P D vwCl [(o, .inr (9, [(ϕ 0), (ϕ 1), (ϕ 2), (ϕ 3), (ϕ 4), (ϕ 5), (ϕ 6), (ϕ 7), (ϕ 8), .int (nI wc), .ref a_wFunction, .ref a_wArgument, .ref a_wNumber, .ref a_wPart, .ref a_wOrder, .ref a_wDown, .ref a_wRange, .ref a_wLow, .ref a_wHigh, (ϕ 19), (ϕ 20), (ϕ 21), (ϕ 22), (ϕ 23), (ϕ 24), (ϕ 25), (ϕ 26), (ϕ 27), (ϕ 28), (ϕ 29), (ϕ 30), (ϕ 31), (ϕ 32), (ϕ 33), (ϕ 34), (ϕ 35), (ϕ 36), (ϕ 37), (ϕ 38), (ϕ 39), (ϕ 40), (ϕ 41), (ϕ 42), (ϕ 43)])), (a_wFunction, .inl (cI, 3, .inl (zN (va_up wf wc f0)))), (a_wArgument, .inl (cI, 3, .inl (zN (va_up wa wc a0)))), (a_wNumber, .inl (cI, 3, .inl (zN (va_up wn wc n0)))), (a_wPart, .inl (cI, 3, .inl (zO (va_up po wc none)))), (a_wOrder, .inl (cI, 3, .inl (zO (va_up oo wc none)))), (a_wDown, .inl (cZ, 3, .inl (zZ wd))), (a_wRange, .inl (cZ, 3, .inl (zZ wg))), (a_wLow, .inl (cI, 3, .inl wl)), (a_wHigh, .inl (cI, 3, .inl wh))] H := hP
  have hD : va_D A [(o, .inr (9, [(ϕ 0), (ϕ 1), (ϕ 2), (ϕ 3), (ϕ 4), (ϕ 5), (ϕ 6), (ϕ 7), (ϕ 8), .int (nI wc), .ref a_wFunction, .ref a_wArgument, .ref a_wNumber, .ref a_wPart, .ref a_wOrder, .ref a_wDown, .ref a_wRange, .ref a_wLow, .ref a_wHigh, (ϕ 19), (ϕ 20), (ϕ 21), (ϕ 22), (ϕ 23), (ϕ 24), (ϕ 25), (ϕ 26), (ϕ 27), (ϕ 28), (ϕ 29), (ϕ 30), (ϕ 31), (ϕ 32), (ϕ 33), (ϕ 34), (ϕ 35), (ϕ 36), (ϕ 37), (ϕ 38), (ϕ 39), (ϕ 40), (ϕ 41), (ϕ 42), (ϕ 43)])), (a_wFunction, .inl (cI, 3, .inl (zN (va_up wf wc f0)))), (a_wArgument, .inl (cI, 3, .inl (zN (va_up wa wc a0)))), (a_wNumber, .inl (cI, 3, .inl (zN (va_up wn wc n0)))), (a_wPart, .inl (cI, 3, .inl (zO (va_up po wc none)))), (a_wOrder, .inl (cI, 3, .inl (zO (va_up oo wc none)))), (a_wDown, .inl (cZ, 3, .inl (zZ wd))), (a_wRange, .inl (cZ, 3, .inl (zZ wg))), (a_wLow, .inl (cI, 3, .inl wl)), (a_wHigh, .inl (cI, 3, .inl wh))] := hD
  refine lv_aload_n hx hb d_Mo_window_89 rfl (lv_at hl 0 rfl) ?_
  refine va_get (C := R_Mo) (T := F_Mo) (N := 44) hx hb hts (fun w h => List.mem_cons_of_mem _ (hin_Mo w h)) hown hK hP 0 rfl rfl 15 (by decide) (hts _ (List.mem_cons_of_mem _ fl_Mo_37)) (fun _ h => h) rfl d_Mo_window_90 ?_
  refine lv_aload_n hx hb d_Mo_window_93 rfl (lv_at hl 0 rfl) ?_
  refine va_get (C := R_Mo) (T := F_Mo) (N := 44) hx hb hts (fun w h => List.mem_cons_of_mem _ (hin_Mo w h)) hown hK hP 0 rfl rfl 9 (by decide) (hts _ (List.mem_cons_of_mem _ fl_Mo_92)) (fun _ h => h) rfl d_Mo_window_94 ?_
  refine lv_iconst (v := zb false) hx hb d_Mo_window_97 (by decide) ?_
  refine zk_bast hx hb hK hP hD hS 6 2 rfl rfl (by omega) (by omega) d_Mo_window_98 (fun H locs hP hD hS => ?_)
  have hP : va_P D vwCl [(o, .inr (9, [(ϕ 0), (ϕ 1), (ϕ 2), (ϕ 3), (ϕ 4), (ϕ 5), (ϕ 6), (ϕ 7), (ϕ 8), .int (nI wc), .ref a_wFunction, .ref a_wArgument, .ref a_wNumber, .ref a_wPart, .ref a_wOrder, .ref a_wDown, .ref a_wRange, .ref a_wLow, .ref a_wHigh, (ϕ 19), (ϕ 20), (ϕ 21), (ϕ 22), (ϕ 23), (ϕ 24), (ϕ 25), (ϕ 26), (ϕ 27), (ϕ 28), (ϕ 29), (ϕ 30), (ϕ 31), (ϕ 32), (ϕ 33), (ϕ 34), (ϕ 35), (ϕ 36), (ϕ 37), (ϕ 38), (ϕ 39), (ϕ 40), (ϕ 41), (ϕ 42), (ϕ 43)])), (a_wFunction, .inl (cI, 3, .inl (zN (va_up wf wc f0)))), (a_wArgument, .inl (cI, 3, .inl (zN (va_up wa wc a0)))), (a_wNumber, .inl (cI, 3, .inl (zN (va_up wn wc n0)))), (a_wPart, .inl (cI, 3, .inl (zO (va_up po wc none)))), (a_wOrder, .inl (cI, 3, .inl (zO (va_up oo wc none)))), (a_wDown, .inl (cZ, 3, .inl (zZ (va_up wd wc false)))), (a_wRange, .inl (cZ, 3, .inl (zZ wg))), (a_wLow, .inl (cI, 3, .inl wl)), (a_wHigh, .inl (cI, 3, .inl wh))] H := hP
  have hD : va_D A [(o, .inr (9, [(ϕ 0), (ϕ 1), (ϕ 2), (ϕ 3), (ϕ 4), (ϕ 5), (ϕ 6), (ϕ 7), (ϕ 8), .int (nI wc), .ref a_wFunction, .ref a_wArgument, .ref a_wNumber, .ref a_wPart, .ref a_wOrder, .ref a_wDown, .ref a_wRange, .ref a_wLow, .ref a_wHigh, (ϕ 19), (ϕ 20), (ϕ 21), (ϕ 22), (ϕ 23), (ϕ 24), (ϕ 25), (ϕ 26), (ϕ 27), (ϕ 28), (ϕ 29), (ϕ 30), (ϕ 31), (ϕ 32), (ϕ 33), (ϕ 34), (ϕ 35), (ϕ 36), (ϕ 37), (ϕ 38), (ϕ 39), (ϕ 40), (ϕ 41), (ϕ 42), (ϕ 43)])), (a_wFunction, .inl (cI, 3, .inl (zN (va_up wf wc f0)))), (a_wArgument, .inl (cI, 3, .inl (zN (va_up wa wc a0)))), (a_wNumber, .inl (cI, 3, .inl (zN (va_up wn wc n0)))), (a_wPart, .inl (cI, 3, .inl (zO (va_up po wc none)))), (a_wOrder, .inl (cI, 3, .inl (zO (va_up oo wc none)))), (a_wDown, .inl (cZ, 3, .inl (zZ (va_up wd wc false)))), (a_wRange, .inl (cZ, 3, .inl (zZ wg))), (a_wLow, .inl (cI, 3, .inl wl)), (a_wHigh, .inl (cI, 3, .inl wh))] := hD
  refine lv_aload_n hx hb d_Mo_window_99 rfl (lv_at hl 0 rfl) ?_
  refine va_get (C := R_Mo) (T := F_Mo) (N := 44) hx hb hts (fun w h => List.mem_cons_of_mem _ (hin_Mo w h)) hown hK hP 0 rfl rfl 16 (by decide) (hts _ (List.mem_cons_of_mem _ fl_Mo_41)) (fun _ h => h) rfl d_Mo_window_100 ?_
  refine lv_aload_n hx hb d_Mo_window_103 rfl (lv_at hl 0 rfl) ?_
  refine va_get (C := R_Mo) (T := F_Mo) (N := 44) hx hb hts (fun w h => List.mem_cons_of_mem _ (hin_Mo w h)) hown hK hP 0 rfl rfl 9 (by decide) (hts _ (List.mem_cons_of_mem _ fl_Mo_92)) (fun _ h => h) rfl d_Mo_window_104 ?_
  refine lv_iconst (v := zb false) hx hb d_Mo_window_107 (by decide) ?_
  refine zk_bast hx hb hK hP hD hS 7 2 rfl rfl (by omega) (by omega) d_Mo_window_108 (fun H locs hP hD hS => ?_)
  have hP : va_P D vwCl [(o, .inr (9, [(ϕ 0), (ϕ 1), (ϕ 2), (ϕ 3), (ϕ 4), (ϕ 5), (ϕ 6), (ϕ 7), (ϕ 8), .int (nI wc), .ref a_wFunction, .ref a_wArgument, .ref a_wNumber, .ref a_wPart, .ref a_wOrder, .ref a_wDown, .ref a_wRange, .ref a_wLow, .ref a_wHigh, (ϕ 19), (ϕ 20), (ϕ 21), (ϕ 22), (ϕ 23), (ϕ 24), (ϕ 25), (ϕ 26), (ϕ 27), (ϕ 28), (ϕ 29), (ϕ 30), (ϕ 31), (ϕ 32), (ϕ 33), (ϕ 34), (ϕ 35), (ϕ 36), (ϕ 37), (ϕ 38), (ϕ 39), (ϕ 40), (ϕ 41), (ϕ 42), (ϕ 43)])), (a_wFunction, .inl (cI, 3, .inl (zN (va_up wf wc f0)))), (a_wArgument, .inl (cI, 3, .inl (zN (va_up wa wc a0)))), (a_wNumber, .inl (cI, 3, .inl (zN (va_up wn wc n0)))), (a_wPart, .inl (cI, 3, .inl (zO (va_up po wc none)))), (a_wOrder, .inl (cI, 3, .inl (zO (va_up oo wc none)))), (a_wDown, .inl (cZ, 3, .inl (zZ (va_up wd wc false)))), (a_wRange, .inl (cZ, 3, .inl (zZ (va_up wg wc false)))), (a_wLow, .inl (cI, 3, .inl wl)), (a_wHigh, .inl (cI, 3, .inl wh))] H := hP
  have hD : va_D A [(o, .inr (9, [(ϕ 0), (ϕ 1), (ϕ 2), (ϕ 3), (ϕ 4), (ϕ 5), (ϕ 6), (ϕ 7), (ϕ 8), .int (nI wc), .ref a_wFunction, .ref a_wArgument, .ref a_wNumber, .ref a_wPart, .ref a_wOrder, .ref a_wDown, .ref a_wRange, .ref a_wLow, .ref a_wHigh, (ϕ 19), (ϕ 20), (ϕ 21), (ϕ 22), (ϕ 23), (ϕ 24), (ϕ 25), (ϕ 26), (ϕ 27), (ϕ 28), (ϕ 29), (ϕ 30), (ϕ 31), (ϕ 32), (ϕ 33), (ϕ 34), (ϕ 35), (ϕ 36), (ϕ 37), (ϕ 38), (ϕ 39), (ϕ 40), (ϕ 41), (ϕ 42), (ϕ 43)])), (a_wFunction, .inl (cI, 3, .inl (zN (va_up wf wc f0)))), (a_wArgument, .inl (cI, 3, .inl (zN (va_up wa wc a0)))), (a_wNumber, .inl (cI, 3, .inl (zN (va_up wn wc n0)))), (a_wPart, .inl (cI, 3, .inl (zO (va_up po wc none)))), (a_wOrder, .inl (cI, 3, .inl (zO (va_up oo wc none)))), (a_wDown, .inl (cZ, 3, .inl (zZ (va_up wd wc false)))), (a_wRange, .inl (cZ, 3, .inl (zZ (va_up wg wc false)))), (a_wLow, .inl (cI, 3, .inl wl)), (a_wHigh, .inl (cI, 3, .inl wh))] := hD
  refine lv_aload_n hx hb d_Mo_window_109 rfl (lv_at hl 0 rfl) ?_
  refine va_get (C := R_Mo) (T := F_Mo) (N := 44) hx hb hts (fun w h => List.mem_cons_of_mem _ (hin_Mo w h)) hown hK hP 0 rfl rfl 17 (by decide) (hts _ (List.mem_cons_of_mem _ fl_Mo_44)) (fun _ h => h) rfl d_Mo_window_110 ?_
  refine lv_aload_n hx hb d_Mo_window_113 rfl (lv_at hl 0 rfl) ?_
  refine va_get (C := R_Mo) (T := F_Mo) (N := 44) hx hb hts (fun w h => List.mem_cons_of_mem _ (hin_Mo w h)) hown hK hP 0 rfl rfl 9 (by decide) (hts _ (List.mem_cons_of_mem _ fl_Mo_92)) (fun _ h => h) rfl d_Mo_window_114 ?_
  refine lv_bipush (v := (-10)) hx hb d_Mo_window_117 (by decide) ?_
  refine zk_iast hx hb hK hP hD hS 8 0 rfl rfl (by omega) (by omega) d_Mo_window_119 (fun H locs hP hD hS => ?_)
  have hP : va_P D vwCl [(o, .inr (9, [(ϕ 0), (ϕ 1), (ϕ 2), (ϕ 3), (ϕ 4), (ϕ 5), (ϕ 6), (ϕ 7), (ϕ 8), .int (nI wc), .ref a_wFunction, .ref a_wArgument, .ref a_wNumber, .ref a_wPart, .ref a_wOrder, .ref a_wDown, .ref a_wRange, .ref a_wLow, .ref a_wHigh, (ϕ 19), (ϕ 20), (ϕ 21), (ϕ 22), (ϕ 23), (ϕ 24), (ϕ 25), (ϕ 26), (ϕ 27), (ϕ 28), (ϕ 29), (ϕ 30), (ϕ 31), (ϕ 32), (ϕ 33), (ϕ 34), (ϕ 35), (ϕ 36), (ϕ 37), (ϕ 38), (ϕ 39), (ϕ 40), (ϕ 41), (ϕ 42), (ϕ 43)])), (a_wFunction, .inl (cI, 3, .inl (zN (va_up wf wc f0)))), (a_wArgument, .inl (cI, 3, .inl (zN (va_up wa wc a0)))), (a_wNumber, .inl (cI, 3, .inl (zN (va_up wn wc n0)))), (a_wPart, .inl (cI, 3, .inl (zO (va_up po wc none)))), (a_wOrder, .inl (cI, 3, .inl (zO (va_up oo wc none)))), (a_wDown, .inl (cZ, 3, .inl (zZ (va_up wd wc false)))), (a_wRange, .inl (cZ, 3, .inl (zZ (va_up wg wc false)))), (a_wLow, .inl (cI, 3, .inl (upd wl wc (-10)))), (a_wHigh, .inl (cI, 3, .inl wh))] H := hP
  have hD : va_D A [(o, .inr (9, [(ϕ 0), (ϕ 1), (ϕ 2), (ϕ 3), (ϕ 4), (ϕ 5), (ϕ 6), (ϕ 7), (ϕ 8), .int (nI wc), .ref a_wFunction, .ref a_wArgument, .ref a_wNumber, .ref a_wPart, .ref a_wOrder, .ref a_wDown, .ref a_wRange, .ref a_wLow, .ref a_wHigh, (ϕ 19), (ϕ 20), (ϕ 21), (ϕ 22), (ϕ 23), (ϕ 24), (ϕ 25), (ϕ 26), (ϕ 27), (ϕ 28), (ϕ 29), (ϕ 30), (ϕ 31), (ϕ 32), (ϕ 33), (ϕ 34), (ϕ 35), (ϕ 36), (ϕ 37), (ϕ 38), (ϕ 39), (ϕ 40), (ϕ 41), (ϕ 42), (ϕ 43)])), (a_wFunction, .inl (cI, 3, .inl (zN (va_up wf wc f0)))), (a_wArgument, .inl (cI, 3, .inl (zN (va_up wa wc a0)))), (a_wNumber, .inl (cI, 3, .inl (zN (va_up wn wc n0)))), (a_wPart, .inl (cI, 3, .inl (zO (va_up po wc none)))), (a_wOrder, .inl (cI, 3, .inl (zO (va_up oo wc none)))), (a_wDown, .inl (cZ, 3, .inl (zZ (va_up wd wc false)))), (a_wRange, .inl (cZ, 3, .inl (zZ (va_up wg wc false)))), (a_wLow, .inl (cI, 3, .inl (upd wl wc (-10)))), (a_wHigh, .inl (cI, 3, .inl wh))] := hD
  refine lv_aload_n hx hb d_Mo_window_120 rfl (lv_at hl 0 rfl) ?_
  refine va_get (C := R_Mo) (T := F_Mo) (N := 44) hx hb hts (fun w h => List.mem_cons_of_mem _ (hin_Mo w h)) hown hK hP 0 rfl rfl 18 (by decide) (hts _ (List.mem_cons_of_mem _ fl_Mo_47)) (fun _ h => h) rfl d_Mo_window_121 ?_
  refine lv_aload_n hx hb d_Mo_window_124 rfl (lv_at hl 0 rfl) ?_
  refine va_get (C := R_Mo) (T := F_Mo) (N := 44) hx hb hts (fun w h => List.mem_cons_of_mem _ (hin_Mo w h)) hown hK hP 0 rfl rfl 9 (by decide) (hts _ (List.mem_cons_of_mem _ fl_Mo_92)) (fun _ h => h) rfl d_Mo_window_125 ?_
  refine lv_bipush (v := nI 10) hx hb d_Mo_window_128 (by decide) ?_
  refine zk_iast hx hb hK hP hD hS 9 0 rfl rfl (by omega) (by omega) d_Mo_window_130 (fun H locs hP hD hS => ?_)
  have hP : va_P D vwCl [(o, .inr (9, [(ϕ 0), (ϕ 1), (ϕ 2), (ϕ 3), (ϕ 4), (ϕ 5), (ϕ 6), (ϕ 7), (ϕ 8), .int (nI wc), .ref a_wFunction, .ref a_wArgument, .ref a_wNumber, .ref a_wPart, .ref a_wOrder, .ref a_wDown, .ref a_wRange, .ref a_wLow, .ref a_wHigh, (ϕ 19), (ϕ 20), (ϕ 21), (ϕ 22), (ϕ 23), (ϕ 24), (ϕ 25), (ϕ 26), (ϕ 27), (ϕ 28), (ϕ 29), (ϕ 30), (ϕ 31), (ϕ 32), (ϕ 33), (ϕ 34), (ϕ 35), (ϕ 36), (ϕ 37), (ϕ 38), (ϕ 39), (ϕ 40), (ϕ 41), (ϕ 42), (ϕ 43)])), (a_wFunction, .inl (cI, 3, .inl (zN (va_up wf wc f0)))), (a_wArgument, .inl (cI, 3, .inl (zN (va_up wa wc a0)))), (a_wNumber, .inl (cI, 3, .inl (zN (va_up wn wc n0)))), (a_wPart, .inl (cI, 3, .inl (zO (va_up po wc none)))), (a_wOrder, .inl (cI, 3, .inl (zO (va_up oo wc none)))), (a_wDown, .inl (cZ, 3, .inl (zZ (va_up wd wc false)))), (a_wRange, .inl (cZ, 3, .inl (zZ (va_up wg wc false)))), (a_wLow, .inl (cI, 3, .inl (upd wl wc (-10)))), (a_wHigh, .inl (cI, 3, .inl (upd wh wc (nI 10))))] H := hP
  have hD : va_D A [(o, .inr (9, [(ϕ 0), (ϕ 1), (ϕ 2), (ϕ 3), (ϕ 4), (ϕ 5), (ϕ 6), (ϕ 7), (ϕ 8), .int (nI wc), .ref a_wFunction, .ref a_wArgument, .ref a_wNumber, .ref a_wPart, .ref a_wOrder, .ref a_wDown, .ref a_wRange, .ref a_wLow, .ref a_wHigh, (ϕ 19), (ϕ 20), (ϕ 21), (ϕ 22), (ϕ 23), (ϕ 24), (ϕ 25), (ϕ 26), (ϕ 27), (ϕ 28), (ϕ 29), (ϕ 30), (ϕ 31), (ϕ 32), (ϕ 33), (ϕ 34), (ϕ 35), (ϕ 36), (ϕ 37), (ϕ 38), (ϕ 39), (ϕ 40), (ϕ 41), (ϕ 42), (ϕ 43)])), (a_wFunction, .inl (cI, 3, .inl (zN (va_up wf wc f0)))), (a_wArgument, .inl (cI, 3, .inl (zN (va_up wa wc a0)))), (a_wNumber, .inl (cI, 3, .inl (zN (va_up wn wc n0)))), (a_wPart, .inl (cI, 3, .inl (zO (va_up po wc none)))), (a_wOrder, .inl (cI, 3, .inl (zO (va_up oo wc none)))), (a_wDown, .inl (cZ, 3, .inl (zZ (va_up wd wc false)))), (a_wRange, .inl (cZ, 3, .inl (zZ (va_up wg wc false)))), (a_wLow, .inl (cI, 3, .inl (upd wl wc (-10)))), (a_wHigh, .inl (cI, 3, .inl (upd wh wc (nI 10))))] := hD
  refine lv_aload_n hx hb d_Mo_window_131 rfl (lv_at hl 0 rfl) ?_
  refine lv_dup hx hb d_Mo_window_132 rfl ?_
  refine va_get (C := R_Mo) (T := F_Mo) (N := 44) hx hb hts (fun w h => List.mem_cons_of_mem _ (hin_Mo w h)) hown hK hP 0 rfl rfl 9 (by decide) (hts _ (List.mem_cons_of_mem _ fl_Mo_92)) (fun _ h => h) rfl d_Mo_window_133 ?_
  refine lv_iconst (v := nI 1) hx hb d_Mo_window_136 (by decide) ?_
  refine lv_iadd hx hb d_Mo_window_137 ?_
  refine zk_topi (show ((nI wc) + (nI 1)) = nI (wc + 1) from nI_add wc 1) ?_
  refine va_put (D := D) (v := .int (nI (wc + 1))) (ty := .int) (C := R_Mo) (T := F_Mo) (N := 44) hx hb hts (fun w h => List.mem_cons_of_mem _ (hin_Mo w h)) t_Mo t_Mo_ok n_Mo hown hK hP hD hS 0 rfl rfl 9 (by decide) (hts _ (List.mem_cons_of_mem _ fl_Mo_92)) (fun _ h => h) rfl (by decide +kernel) rfl rfl (Nat.le_of_ble_eq_true rfl) d_Mo_window_138 (fun H locs hP hD hS => ?_)
  have hP : va_P D vwCl [(o, .inr (9, [(ϕ 0), (ϕ 1), (ϕ 2), (ϕ 3), (ϕ 4), (ϕ 5), (ϕ 6), (ϕ 7), (ϕ 8), .int (nI (wc + 1)), .ref a_wFunction, .ref a_wArgument, .ref a_wNumber, .ref a_wPart, .ref a_wOrder, .ref a_wDown, .ref a_wRange, .ref a_wLow, .ref a_wHigh, (ϕ 19), (ϕ 20), (ϕ 21), (ϕ 22), (ϕ 23), (ϕ 24), (ϕ 25), (ϕ 26), (ϕ 27), (ϕ 28), (ϕ 29), (ϕ 30), (ϕ 31), (ϕ 32), (ϕ 33), (ϕ 34), (ϕ 35), (ϕ 36), (ϕ 37), (ϕ 38), (ϕ 39), (ϕ 40), (ϕ 41), (ϕ 42), (ϕ 43)])), (a_wFunction, .inl (cI, 3, .inl (zN (va_up wf wc f0)))), (a_wArgument, .inl (cI, 3, .inl (zN (va_up wa wc a0)))), (a_wNumber, .inl (cI, 3, .inl (zN (va_up wn wc n0)))), (a_wPart, .inl (cI, 3, .inl (zO (va_up po wc none)))), (a_wOrder, .inl (cI, 3, .inl (zO (va_up oo wc none)))), (a_wDown, .inl (cZ, 3, .inl (zZ (va_up wd wc false)))), (a_wRange, .inl (cZ, 3, .inl (zZ (va_up wg wc false)))), (a_wLow, .inl (cI, 3, .inl (upd wl wc (-10)))), (a_wHigh, .inl (cI, 3, .inl (upd wh wc (nI 10))))] H := hP
  have hD : va_D A [(o, .inr (9, [(ϕ 0), (ϕ 1), (ϕ 2), (ϕ 3), (ϕ 4), (ϕ 5), (ϕ 6), (ϕ 7), (ϕ 8), .int (nI (wc + 1)), .ref a_wFunction, .ref a_wArgument, .ref a_wNumber, .ref a_wPart, .ref a_wOrder, .ref a_wDown, .ref a_wRange, .ref a_wLow, .ref a_wHigh, (ϕ 19), (ϕ 20), (ϕ 21), (ϕ 22), (ϕ 23), (ϕ 24), (ϕ 25), (ϕ 26), (ϕ 27), (ϕ 28), (ϕ 29), (ϕ 30), (ϕ 31), (ϕ 32), (ϕ 33), (ϕ 34), (ϕ 35), (ϕ 36), (ϕ 37), (ϕ 38), (ϕ 39), (ϕ 40), (ϕ 41), (ϕ 42), (ϕ 43)])), (a_wFunction, .inl (cI, 3, .inl (zN (va_up wf wc f0)))), (a_wArgument, .inl (cI, 3, .inl (zN (va_up wa wc a0)))), (a_wNumber, .inl (cI, 3, .inl (zN (va_up wn wc n0)))), (a_wPart, .inl (cI, 3, .inl (zO (va_up po wc none)))), (a_wOrder, .inl (cI, 3, .inl (zO (va_up oo wc none)))), (a_wDown, .inl (cZ, 3, .inl (zZ (va_up wd wc false)))), (a_wRange, .inl (cZ, 3, .inl (zZ (va_up wg wc false)))), (a_wLow, .inl (cI, 3, .inl (upd wl wc (-10)))), (a_wHigh, .inl (cI, 3, .inl (upd wh wc (nI 10))))] := hD
  refine lv_aload_n hx hb d_Mo_window_141 rfl (lv_at hl 0 rfl) ?_
  refine va_get (C := R_Mo) (T := F_Mo) (N := 44) hx hb hts (fun w h => List.mem_cons_of_mem _ (hin_Mo w h)) hown hK hP 0 rfl rfl 9 (by decide) (hts _ (List.mem_cons_of_mem _ fl_Mo_92)) (fun _ h => h) rfl d_Mo_window_142 ?_
  refine lv_iconst (v := nI 1) hx hb d_Mo_window_145 (by decide) ?_
  refine lv_isub hx hb d_Mo_window_146 ?_
  refine zk_topi (show ((nI (wc + 1)) - (nI 1)) = nI (wc + 1 - 1) from pk_sub (by omega)) ?_
  exact zk_iretW hx hb hr hlk hAe hQ hK (()) (by rw [Nat.add_sub_cancel]) hP hD hS d_Mo_window_147
set_option maxHeartbeats 4000000 in
set_option maxRecDepth 100000 in
theorem c_Mo_over_n (l : Launch) (D : va_G) (cI cL cZ cW cR : ClassId) (sz : Nat) (o : Nat) (ϕ : Nat → Value) (a_wPart a_wOrder a_wDown a_wRange : Nat) (wc : Nat) (po : Nat → Option Nat) (oo : Nat → Option Nat) (wd : Nat → Bool) (wg : Nat → Bool) (w : Nat) (hw : w < wc) (hwc : wc ≤ 3) (pq : Option Nat) (d0 : Bool) (hpq : ∀ q, pq = some q → q < 6) (hwg : wg w = false) : Met l y_Mo_over ws_Mo_over rm1_30 (zPw D vwCl (zT cI cL cZ cW cR) [(o, .inr (9, [(ϕ 0), (ϕ 1), (ϕ 2), (ϕ 3), (ϕ 4), (ϕ 5), (ϕ 6), (ϕ 7), (ϕ 8), .int (nI wc), (ϕ 10), (ϕ 11), (ϕ 12), .ref a_wPart, .ref a_wOrder, .ref a_wDown, .ref a_wRange, (ϕ 17), (ϕ 18), (ϕ 19), (ϕ 20), (ϕ 21), (ϕ 22), (ϕ 23), (ϕ 24), (ϕ 25), (ϕ 26), (ϕ 27), (ϕ 28), (ϕ 29), (ϕ 30), (ϕ 31), (ϕ 32), (ϕ 33), (ϕ 34), (ϕ 35), (ϕ 36), (ϕ 37), (ϕ 38), (ϕ 39), (ϕ 40), (ϕ 41), (ϕ 42), (ϕ 43)])), (a_wPart, .inl (cI, 3, .inl (zO po))), (a_wOrder, .inl (cI, 3, .inl (zO oo))), (a_wDown, .inl (cZ, 3, .inl (zZ wd))), (a_wRange, .inl (cZ, 3, .inl (zZ wg)))] sz [.ref o, .int (nI w), .int (oI pq), .int (-1), .int (zb d0)]) (zQi D vwCl (zT cI cL cZ cW cR) [(o, .inr (9, [(ϕ 0), (ϕ 1), (ϕ 2), (ϕ 3), (ϕ 4), (ϕ 5), (ϕ 6), (ϕ 7), (ϕ 8), .int (nI wc), (ϕ 10), (ϕ 11), (ϕ 12), .ref a_wPart, .ref a_wOrder, .ref a_wDown, .ref a_wRange, (ϕ 17), (ϕ 18), (ϕ 19), (ϕ 20), (ϕ 21), (ϕ 22), (ϕ 23), (ϕ 24), (ϕ 25), (ϕ 26), (ϕ 27), (ϕ 28), (ϕ 29), (ϕ 30), (ϕ 31), (ϕ 32), (ϕ 33), (ϕ 34), (ϕ 35), (ϕ 36), (ϕ 37), (ϕ 38), (ϕ 39), (ϕ 40), (ϕ 41), (ϕ 42), (ϕ 43)])), (a_wPart, .inl (cI, 3, .inl (zO po))), (a_wOrder, .inl (cI, 3, .inl (zO oo))), (a_wDown, .inl (cZ, 3, .inl (zZ wd))), (a_wRange, .inl (cZ, 3, .inl (zZ wg)))] sz (fun x (_ : Unit) => x = zb true) (fun _ => [(o, .inr (9, [(ϕ 0), (ϕ 1), (ϕ 2), (ϕ 3), (ϕ 4), (ϕ 5), (ϕ 6), (ϕ 7), (ϕ 8), .int (nI wc), (ϕ 10), (ϕ 11), (ϕ 12), .ref a_wPart, .ref a_wOrder, .ref a_wDown, .ref a_wRange, (ϕ 17), (ϕ 18), (ϕ 19), (ϕ 20), (ϕ 21), (ϕ 22), (ϕ 23), (ϕ 24), (ϕ 25), (ϕ 26), (ϕ 27), (ϕ 28), (ϕ 29), (ϕ 30), (ϕ 31), (ϕ 32), (ϕ 33), (ϕ 34), (ϕ 35), (ϕ 36), (ϕ 37), (ϕ 38), (ϕ 39), (ϕ 40), (ϕ 41), (ϕ 42), (ϕ 43)])), (a_wPart, .inl (cI, 3, .inl (zO (va_up po w pq)))), (a_wOrder, .inl (cI, 3, .inl (zO (va_up oo w none)))), (a_wDown, .inl (cZ, 3, .inl (zZ (va_up wd w d0)))), (a_wRange, .inl (cZ, 3, .inl (zZ wg)))])) 0 0 (va_A [(o, .inr (9, [(ϕ 0), (ϕ 1), (ϕ 2), (ϕ 3), (ϕ 4), (ϕ 5), (ϕ 6), (ϕ 7), (ϕ 8), .int (nI wc), (ϕ 10), (ϕ 11), (ϕ 12), .ref a_wPart, .ref a_wOrder, .ref a_wDown, .ref a_wRange, (ϕ 17), (ϕ 18), (ϕ 19), (ϕ 20), (ϕ 21), (ϕ 22), (ϕ 23), (ϕ 24), (ϕ 25), (ϕ 26), (ϕ 27), (ϕ 28), (ϕ 29), (ϕ 30), (ϕ 31), (ϕ 32), (ϕ 33), (ϕ 34), (ϕ 35), (ϕ 36), (ϕ 37), (ϕ 38), (ϕ 39), (ϕ 40), (ϕ 41), (ϕ 42), (ϕ 43)])), (a_wPart, .inl (cI, 3, .inl (zO po))), (a_wOrder, .inl (cI, 3, .inl (zO oo))), (a_wDown, .inl (cZ, 3, .inl (zZ wd))), (a_wRange, .inl (cZ, 3, .inl (zZ wg)))] sz) := by
  refine zk_enterW (cc := b_Mo_over) (maxL := 5) (ret := some .boolean) (by decide) rfl (Nat.le_of_ble_eq_true rfl) ?_
  intro p e s m args below meth c ls Q hx hb hml hr hlk hown hts hP hK hN hl hin hsz A hAe hA hD hS hQ
  subst hsz
  have hl : lv_has ls 5 [(0, .ref o), (1, .int (nI w)), (2, .int (oI pq)), (3, .int (-1)), (4, .int (zb d0))] := hl
  refine lv_iload_n hx hb d_Mo_over_0 rfl (lv_at hl 1 rfl) ?_
  refine lv_iconst (v := nI 0) hx hb d_Mo_over_1 (by decide) ?_
  refine lv_aload_n hx hb d_Mo_over_2 rfl (lv_at hl 0 rfl) ?_
  refine va_get (C := R_Mo) (T := F_Mo) (N := 44) hx hb hts (fun w h => List.mem_cons_of_mem _ (hin_Mo w h)) hown hK hP 0 rfl rfl 9 (by decide) (hts _ (List.mem_cons_of_mem _ fl_Mo_92)) (fun _ h => h) rfl d_Mo_over_3 ?_
  refine lv_iconst (v := nI 1) hx hb d_Mo_over_6 (by decide) ?_
  refine lv_isub hx hb d_Mo_over_7 ?_
  refine zk_topi (show ((nI wc) - (nI 1)) = nI (wc - 1) from pk_sub (by omega)) ?_
  have hPc := hP.sub (ws' := []) [] rfl
  refine zk_ri (va_runS (As := [.int (nI w), .int (nI 0), .int (nI (wc - 1))]) (rest := []) ⟨hx, hb, hml, hown, hts⟩ (c_Mo_outside l D cI cL cZ cW cR (nI w) (nI 0) (nI (wc - 1))) (cwS 3 hts (zk_gS (fun _ h => List.mem_cons_of_mem _ h) ml_Mo_81 sm_Mo_outside in_Mo co_Mo_outside) rfl rfl rfl ⟨rfl, hd_Mo_outside⟩ ⟨Nat.le_of_ble_eq_true rfl, Nat.le_of_ble_eq_true rfl⟩) (zk_sr hN hK hPc) rfl rfl hl.1 rfl (lv_room (Nat.le_of_ble_eq_true rfl)) d_Mo_over_8 ⟨Nat.zero_le _, Nat.zero_le _⟩) ?_
  refine zk_ifb_ne (tgt := 46) hx hb d_Mo_over_11 rfl (fun hq => absurd hq (fun q => absurd (of_decide_eq_true q) (fun z => z.elim (nI_nlt (by omega) (by omega)) (nI_nlt (by omega) (by omega))))) (fun _ => ?_)
  refine lv_iload_n hx hb d_Mo_over_14 rfl (lv_at hl 2 rfl) ?_
  refine lv_iconst (v := (-1)) hx hb d_Mo_over_15 (by decide) ?_
  refine lv_iconst (v := nI 5) hx hb d_Mo_over_16 (by decide) ?_
  have hPc := hP.sub (ws' := []) [] rfl
  refine zk_ri (va_runS (As := [.int (oI pq), .int (-1), .int (nI 5)]) (rest := []) ⟨hx, hb, hml, hown, hts⟩ (c_Mo_outside l D cI cL cZ cW cR (oI pq) (-1 : Int32) (nI 5)) (cwS 3 hts (zk_gS (fun _ h => List.mem_cons_of_mem _ h) ml_Mo_81 sm_Mo_outside in_Mo co_Mo_outside) rfl rfl rfl ⟨rfl, hd_Mo_outside⟩ ⟨Nat.le_of_ble_eq_true rfl, Nat.le_of_ble_eq_true rfl⟩) (zk_sr hN hK hPc) rfl rfl hl.1 rfl (lv_room (Nat.le_of_ble_eq_true rfl)) d_Mo_over_17 ⟨Nat.zero_le _, Nat.zero_le _⟩) ?_
  refine zk_ifb_ne (tgt := 46) hx hb d_Mo_over_20 rfl (fun hq => absurd hq (fun q => absurd (of_decide_eq_true q) (oI_in hpq))) (fun _ => ?_)
  refine lv_iload_n hx hb d_Mo_over_23 rfl (lv_at hl 3 rfl) ?_
  refine lv_iconst (v := (-1)) hx hb d_Mo_over_24 (by decide) ?_
  refine lv_iconst (v := nI 5) hx hb d_Mo_over_25 (by decide) ?_
  have hPc := hP.sub (ws' := []) [] rfl
  refine zk_ri (va_runS (As := [.int (-1), .int (-1), .int (nI 5)]) (rest := []) ⟨hx, hb, hml, hown, hts⟩ (c_Mo_outside l D cI cL cZ cW cR (-1 : Int32) (-1 : Int32) (nI 5)) (cwS 3 hts (zk_gS (fun _ h => List.mem_cons_of_mem _ h) ml_Mo_81 sm_Mo_outside in_Mo co_Mo_outside) rfl rfl rfl ⟨rfl, hd_Mo_outside⟩ ⟨Nat.le_of_ble_eq_true rfl, Nat.le_of_ble_eq_true rfl⟩) (zk_sr hN hK hPc) rfl rfl hl.1 rfl (lv_room (Nat.le_of_ble_eq_true rfl)) d_Mo_over_26 ⟨Nat.zero_le _, Nat.zero_le _⟩) ?_
  refine zk_ifb_ne (tgt := 46) hx hb d_Mo_over_29 rfl (fun hq => absurd hq (fun q => absurd (of_decide_eq_true q) (oI_in (o := none) (fun q h => by cases h)))) (fun _ => ?_)
  refine lv_aload_n hx hb d_Mo_over_32 rfl (lv_at hl 0 rfl) ?_
  refine va_get (C := R_Mo) (T := F_Mo) (N := 44) hx hb hts (fun w h => List.mem_cons_of_mem _ (hin_Mo w h)) hown hK hP 0 rfl rfl 16 (by decide) (hts _ (List.mem_cons_of_mem _ fl_Mo_41)) (fun _ h => h) rfl d_Mo_over_33 ?_
  refine lv_iload_n hx hb d_Mo_over_36 rfl (lv_at hl 1 rfl) ?_
  refine zk_bald hx hb hK hP 4 2 rfl rfl (by omega) (by omega) d_Mo_over_37 ?_
  refine zk_ifb_eq (tgt := 48) hx hb d_Mo_over_38 rfl (fun _ => ?_) (fun hq => absurd hq (fun q => by rw [hwg] at q; exact Bool.false_ne_true q))
  refine lv_aload_n hx hb d_Mo_over_48 rfl (lv_at hl 0 rfl) ?_
  refine va_get (C := R_Mo) (T := F_Mo) (N := 44) hx hb hts (fun w h => List.mem_cons_of_mem _ (hin_Mo w h)) hown hK hP 0 rfl rfl 13 (by decide) (hts _ (List.mem_cons_of_mem _ fl_Mo_31)) (fun _ h => h) rfl d_Mo_over_49 ?_
  refine lv_iload_n hx hb d_Mo_over_52 rfl (lv_at hl 1 rfl) ?_
  refine lv_iload_n hx hb d_Mo_over_53 rfl (lv_at hl 2 rfl) ?_
  refine zk_oast (x := pq) hx hb hK hP hD hS 1 0 rfl rfl (by omega) (by omega) d_Mo_over_54 (fun H locs hP hD hS => ?_)
  have hP : va_P D vwCl [(o, .inr (9, [(ϕ 0), (ϕ 1), (ϕ 2), (ϕ 3), (ϕ 4), (ϕ 5), (ϕ 6), (ϕ 7), (ϕ 8), .int (nI wc), (ϕ 10), (ϕ 11), (ϕ 12), .ref a_wPart, .ref a_wOrder, .ref a_wDown, .ref a_wRange, (ϕ 17), (ϕ 18), (ϕ 19), (ϕ 20), (ϕ 21), (ϕ 22), (ϕ 23), (ϕ 24), (ϕ 25), (ϕ 26), (ϕ 27), (ϕ 28), (ϕ 29), (ϕ 30), (ϕ 31), (ϕ 32), (ϕ 33), (ϕ 34), (ϕ 35), (ϕ 36), (ϕ 37), (ϕ 38), (ϕ 39), (ϕ 40), (ϕ 41), (ϕ 42), (ϕ 43)])), (a_wPart, .inl (cI, 3, .inl (zO (va_up po w pq)))), (a_wOrder, .inl (cI, 3, .inl (zO oo))), (a_wDown, .inl (cZ, 3, .inl (zZ wd))), (a_wRange, .inl (cZ, 3, .inl (zZ wg)))] H := hP
  have hD : va_D A [(o, .inr (9, [(ϕ 0), (ϕ 1), (ϕ 2), (ϕ 3), (ϕ 4), (ϕ 5), (ϕ 6), (ϕ 7), (ϕ 8), .int (nI wc), (ϕ 10), (ϕ 11), (ϕ 12), .ref a_wPart, .ref a_wOrder, .ref a_wDown, .ref a_wRange, (ϕ 17), (ϕ 18), (ϕ 19), (ϕ 20), (ϕ 21), (ϕ 22), (ϕ 23), (ϕ 24), (ϕ 25), (ϕ 26), (ϕ 27), (ϕ 28), (ϕ 29), (ϕ 30), (ϕ 31), (ϕ 32), (ϕ 33), (ϕ 34), (ϕ 35), (ϕ 36), (ϕ 37), (ϕ 38), (ϕ 39), (ϕ 40), (ϕ 41), (ϕ 42), (ϕ 43)])), (a_wPart, .inl (cI, 3, .inl (zO (va_up po w pq)))), (a_wOrder, .inl (cI, 3, .inl (zO oo))), (a_wDown, .inl (cZ, 3, .inl (zZ wd))), (a_wRange, .inl (cZ, 3, .inl (zZ wg)))] := hD
  refine lv_aload_n hx hb d_Mo_over_55 rfl (lv_at hl 0 rfl) ?_
  refine va_get (C := R_Mo) (T := F_Mo) (N := 44) hx hb hts (fun w h => List.mem_cons_of_mem _ (hin_Mo w h)) hown hK hP 0 rfl rfl 14 (by decide) (hts _ (List.mem_cons_of_mem _ fl_Mo_34)) (fun _ h => h) rfl d_Mo_over_56 ?_
  refine lv_iload_n hx hb d_Mo_over_59 rfl (lv_at hl 1 rfl) ?_
  refine lv_iload_n hx hb d_Mo_over_60 rfl (lv_at hl 3 rfl) ?_
  refine zk_oast (x := none) hx hb hK hP hD hS 2 0 rfl rfl (by omega) (by omega) d_Mo_over_61 (fun H locs hP hD hS => ?_)
  have hP : va_P D vwCl [(o, .inr (9, [(ϕ 0), (ϕ 1), (ϕ 2), (ϕ 3), (ϕ 4), (ϕ 5), (ϕ 6), (ϕ 7), (ϕ 8), .int (nI wc), (ϕ 10), (ϕ 11), (ϕ 12), .ref a_wPart, .ref a_wOrder, .ref a_wDown, .ref a_wRange, (ϕ 17), (ϕ 18), (ϕ 19), (ϕ 20), (ϕ 21), (ϕ 22), (ϕ 23), (ϕ 24), (ϕ 25), (ϕ 26), (ϕ 27), (ϕ 28), (ϕ 29), (ϕ 30), (ϕ 31), (ϕ 32), (ϕ 33), (ϕ 34), (ϕ 35), (ϕ 36), (ϕ 37), (ϕ 38), (ϕ 39), (ϕ 40), (ϕ 41), (ϕ 42), (ϕ 43)])), (a_wPart, .inl (cI, 3, .inl (zO (va_up po w pq)))), (a_wOrder, .inl (cI, 3, .inl (zO (va_up oo w none)))), (a_wDown, .inl (cZ, 3, .inl (zZ wd))), (a_wRange, .inl (cZ, 3, .inl (zZ wg)))] H := hP
  have hD : va_D A [(o, .inr (9, [(ϕ 0), (ϕ 1), (ϕ 2), (ϕ 3), (ϕ 4), (ϕ 5), (ϕ 6), (ϕ 7), (ϕ 8), .int (nI wc), (ϕ 10), (ϕ 11), (ϕ 12), .ref a_wPart, .ref a_wOrder, .ref a_wDown, .ref a_wRange, (ϕ 17), (ϕ 18), (ϕ 19), (ϕ 20), (ϕ 21), (ϕ 22), (ϕ 23), (ϕ 24), (ϕ 25), (ϕ 26), (ϕ 27), (ϕ 28), (ϕ 29), (ϕ 30), (ϕ 31), (ϕ 32), (ϕ 33), (ϕ 34), (ϕ 35), (ϕ 36), (ϕ 37), (ϕ 38), (ϕ 39), (ϕ 40), (ϕ 41), (ϕ 42), (ϕ 43)])), (a_wPart, .inl (cI, 3, .inl (zO (va_up po w pq)))), (a_wOrder, .inl (cI, 3, .inl (zO (va_up oo w none)))), (a_wDown, .inl (cZ, 3, .inl (zZ wd))), (a_wRange, .inl (cZ, 3, .inl (zZ wg)))] := hD
  refine lv_aload_n hx hb d_Mo_over_62 rfl (lv_at hl 0 rfl) ?_
  refine va_get (C := R_Mo) (T := F_Mo) (N := 44) hx hb hts (fun w h => List.mem_cons_of_mem _ (hin_Mo w h)) hown hK hP 0 rfl rfl 15 (by decide) (hts _ (List.mem_cons_of_mem _ fl_Mo_37)) (fun _ h => h) rfl d_Mo_over_63 ?_
  refine lv_iload_n hx hb d_Mo_over_66 rfl (lv_at hl 1 rfl) ?_
  refine lv_iload hx hb d_Mo_over_67 (lv_at hl 4 rfl) ?_
  refine zk_bast hx hb hK hP hD hS 3 2 rfl rfl (by omega) (by omega) d_Mo_over_69 (fun H locs hP hD hS => ?_)
  have hP : va_P D vwCl [(o, .inr (9, [(ϕ 0), (ϕ 1), (ϕ 2), (ϕ 3), (ϕ 4), (ϕ 5), (ϕ 6), (ϕ 7), (ϕ 8), .int (nI wc), (ϕ 10), (ϕ 11), (ϕ 12), .ref a_wPart, .ref a_wOrder, .ref a_wDown, .ref a_wRange, (ϕ 17), (ϕ 18), (ϕ 19), (ϕ 20), (ϕ 21), (ϕ 22), (ϕ 23), (ϕ 24), (ϕ 25), (ϕ 26), (ϕ 27), (ϕ 28), (ϕ 29), (ϕ 30), (ϕ 31), (ϕ 32), (ϕ 33), (ϕ 34), (ϕ 35), (ϕ 36), (ϕ 37), (ϕ 38), (ϕ 39), (ϕ 40), (ϕ 41), (ϕ 42), (ϕ 43)])), (a_wPart, .inl (cI, 3, .inl (zO (va_up po w pq)))), (a_wOrder, .inl (cI, 3, .inl (zO (va_up oo w none)))), (a_wDown, .inl (cZ, 3, .inl (zZ (va_up wd w d0)))), (a_wRange, .inl (cZ, 3, .inl (zZ wg)))] H := hP
  have hD : va_D A [(o, .inr (9, [(ϕ 0), (ϕ 1), (ϕ 2), (ϕ 3), (ϕ 4), (ϕ 5), (ϕ 6), (ϕ 7), (ϕ 8), .int (nI wc), (ϕ 10), (ϕ 11), (ϕ 12), .ref a_wPart, .ref a_wOrder, .ref a_wDown, .ref a_wRange, (ϕ 17), (ϕ 18), (ϕ 19), (ϕ 20), (ϕ 21), (ϕ 22), (ϕ 23), (ϕ 24), (ϕ 25), (ϕ 26), (ϕ 27), (ϕ 28), (ϕ 29), (ϕ 30), (ϕ 31), (ϕ 32), (ϕ 33), (ϕ 34), (ϕ 35), (ϕ 36), (ϕ 37), (ϕ 38), (ϕ 39), (ϕ 40), (ϕ 41), (ϕ 42), (ϕ 43)])), (a_wPart, .inl (cI, 3, .inl (zO (va_up po w pq)))), (a_wOrder, .inl (cI, 3, .inl (zO (va_up oo w none)))), (a_wDown, .inl (cZ, 3, .inl (zZ (va_up wd w d0)))), (a_wRange, .inl (cZ, 3, .inl (zZ wg)))] := hD
  refine lv_iconst (v := zb true) hx hb d_Mo_over_70 (by decide) ?_
  exact zk_zretW hx hb hr hlk hAe hQ hK (()) (rfl) hP hD hS d_Mo_over_71
set_option maxHeartbeats 4000000 in
set_option maxRecDepth 100000 in
theorem c_Mo_over_s (l : Launch) (D : va_G) (cI cL cZ cW cR : ClassId) (sz : Nat) (o : Nat) (ϕ : Nat → Value) (a_wPart a_wOrder a_wDown a_wRange : Nat) (wc : Nat) (po : Nat → Option Nat) (oo : Nat → Option Nat) (wd : Nat → Bool) (wg : Nat → Bool) (w : Nat) (hw : w < wc) (hwc : wc ≤ 3) (pq : Option Nat) (d0 : Bool) (hpq : ∀ q, pq = some q → q < 6) (oj : Nat) (hoj : oj < 6) : Met l y_Mo_over ws_Mo_over rm1_30 (zPw D vwCl (zT cI cL cZ cW cR) [(o, .inr (9, [(ϕ 0), (ϕ 1), (ϕ 2), (ϕ 3), (ϕ 4), (ϕ 5), (ϕ 6), (ϕ 7), (ϕ 8), .int (nI wc), (ϕ 10), (ϕ 11), (ϕ 12), .ref a_wPart, .ref a_wOrder, .ref a_wDown, .ref a_wRange, (ϕ 17), (ϕ 18), (ϕ 19), (ϕ 20), (ϕ 21), (ϕ 22), (ϕ 23), (ϕ 24), (ϕ 25), (ϕ 26), (ϕ 27), (ϕ 28), (ϕ 29), (ϕ 30), (ϕ 31), (ϕ 32), (ϕ 33), (ϕ 34), (ϕ 35), (ϕ 36), (ϕ 37), (ϕ 38), (ϕ 39), (ϕ 40), (ϕ 41), (ϕ 42), (ϕ 43)])), (a_wPart, .inl (cI, 3, .inl (zO po))), (a_wOrder, .inl (cI, 3, .inl (zO oo))), (a_wDown, .inl (cZ, 3, .inl (zZ wd))), (a_wRange, .inl (cZ, 3, .inl (zZ wg)))] sz [.ref o, .int (nI w), .int (oI pq), .int (nI oj), .int (zb d0)]) (zQi D vwCl (zT cI cL cZ cW cR) [(o, .inr (9, [(ϕ 0), (ϕ 1), (ϕ 2), (ϕ 3), (ϕ 4), (ϕ 5), (ϕ 6), (ϕ 7), (ϕ 8), .int (nI wc), (ϕ 10), (ϕ 11), (ϕ 12), .ref a_wPart, .ref a_wOrder, .ref a_wDown, .ref a_wRange, (ϕ 17), (ϕ 18), (ϕ 19), (ϕ 20), (ϕ 21), (ϕ 22), (ϕ 23), (ϕ 24), (ϕ 25), (ϕ 26), (ϕ 27), (ϕ 28), (ϕ 29), (ϕ 30), (ϕ 31), (ϕ 32), (ϕ 33), (ϕ 34), (ϕ 35), (ϕ 36), (ϕ 37), (ϕ 38), (ϕ 39), (ϕ 40), (ϕ 41), (ϕ 42), (ϕ 43)])), (a_wPart, .inl (cI, 3, .inl (zO po))), (a_wOrder, .inl (cI, 3, .inl (zO oo))), (a_wDown, .inl (cZ, 3, .inl (zZ wd))), (a_wRange, .inl (cZ, 3, .inl (zZ wg)))] sz (fun x (_ : Unit) => x = zb true) (fun _ => [(o, .inr (9, [(ϕ 0), (ϕ 1), (ϕ 2), (ϕ 3), (ϕ 4), (ϕ 5), (ϕ 6), (ϕ 7), (ϕ 8), .int (nI wc), (ϕ 10), (ϕ 11), (ϕ 12), .ref a_wPart, .ref a_wOrder, .ref a_wDown, .ref a_wRange, (ϕ 17), (ϕ 18), (ϕ 19), (ϕ 20), (ϕ 21), (ϕ 22), (ϕ 23), (ϕ 24), (ϕ 25), (ϕ 26), (ϕ 27), (ϕ 28), (ϕ 29), (ϕ 30), (ϕ 31), (ϕ 32), (ϕ 33), (ϕ 34), (ϕ 35), (ϕ 36), (ϕ 37), (ϕ 38), (ϕ 39), (ϕ 40), (ϕ 41), (ϕ 42), (ϕ 43)])), (a_wPart, .inl (cI, 3, .inl (zO (va_up po w pq)))), (a_wOrder, .inl (cI, 3, .inl (zO (va_up oo w (some oj))))), (a_wDown, .inl (cZ, 3, .inl (zZ (va_up wd w d0)))), (a_wRange, .inl (cZ, 3, .inl (zZ wg)))])) 0 0 (va_A [(o, .inr (9, [(ϕ 0), (ϕ 1), (ϕ 2), (ϕ 3), (ϕ 4), (ϕ 5), (ϕ 6), (ϕ 7), (ϕ 8), .int (nI wc), (ϕ 10), (ϕ 11), (ϕ 12), .ref a_wPart, .ref a_wOrder, .ref a_wDown, .ref a_wRange, (ϕ 17), (ϕ 18), (ϕ 19), (ϕ 20), (ϕ 21), (ϕ 22), (ϕ 23), (ϕ 24), (ϕ 25), (ϕ 26), (ϕ 27), (ϕ 28), (ϕ 29), (ϕ 30), (ϕ 31), (ϕ 32), (ϕ 33), (ϕ 34), (ϕ 35), (ϕ 36), (ϕ 37), (ϕ 38), (ϕ 39), (ϕ 40), (ϕ 41), (ϕ 42), (ϕ 43)])), (a_wPart, .inl (cI, 3, .inl (zO po))), (a_wOrder, .inl (cI, 3, .inl (zO oo))), (a_wDown, .inl (cZ, 3, .inl (zZ wd))), (a_wRange, .inl (cZ, 3, .inl (zZ wg)))] sz) := by
  refine zk_enterW (cc := b_Mo_over) (maxL := 5) (ret := some .boolean) (by decide) rfl (Nat.le_of_ble_eq_true rfl) ?_
  intro p e s m args below meth c ls Q hx hb hml hr hlk hown hts hP hK hN hl hin hsz A hAe hA hD hS hQ
  subst hsz
  have hl : lv_has ls 5 [(0, .ref o), (1, .int (nI w)), (2, .int (oI pq)), (3, .int (nI oj)), (4, .int (zb d0))] := hl
  refine lv_iload_n hx hb d_Mo_over_0 rfl (lv_at hl 1 rfl) ?_
  refine lv_iconst (v := nI 0) hx hb d_Mo_over_1 (by decide) ?_
  refine lv_aload_n hx hb d_Mo_over_2 rfl (lv_at hl 0 rfl) ?_
  refine va_get (C := R_Mo) (T := F_Mo) (N := 44) hx hb hts (fun w h => List.mem_cons_of_mem _ (hin_Mo w h)) hown hK hP 0 rfl rfl 9 (by decide) (hts _ (List.mem_cons_of_mem _ fl_Mo_92)) (fun _ h => h) rfl d_Mo_over_3 ?_
  refine lv_iconst (v := nI 1) hx hb d_Mo_over_6 (by decide) ?_
  refine lv_isub hx hb d_Mo_over_7 ?_
  refine zk_topi (show ((nI wc) - (nI 1)) = nI (wc - 1) from pk_sub (by omega)) ?_
  have hPc := hP.sub (ws' := []) [] rfl
  refine zk_ri (va_runS (As := [.int (nI w), .int (nI 0), .int (nI (wc - 1))]) (rest := []) ⟨hx, hb, hml, hown, hts⟩ (c_Mo_outside l D cI cL cZ cW cR (nI w) (nI 0) (nI (wc - 1))) (cwS 3 hts (zk_gS (fun _ h => List.mem_cons_of_mem _ h) ml_Mo_81 sm_Mo_outside in_Mo co_Mo_outside) rfl rfl rfl ⟨rfl, hd_Mo_outside⟩ ⟨Nat.le_of_ble_eq_true rfl, Nat.le_of_ble_eq_true rfl⟩) (zk_sr hN hK hPc) rfl rfl hl.1 rfl (lv_room (Nat.le_of_ble_eq_true rfl)) d_Mo_over_8 ⟨Nat.zero_le _, Nat.zero_le _⟩) ?_
  refine zk_ifb_ne (tgt := 46) hx hb d_Mo_over_11 rfl (fun hq => absurd hq (fun q => absurd (of_decide_eq_true q) (fun z => z.elim (nI_nlt (by omega) (by omega)) (nI_nlt (by omega) (by omega))))) (fun _ => ?_)
  refine lv_iload_n hx hb d_Mo_over_14 rfl (lv_at hl 2 rfl) ?_
  refine lv_iconst (v := (-1)) hx hb d_Mo_over_15 (by decide) ?_
  refine lv_iconst (v := nI 5) hx hb d_Mo_over_16 (by decide) ?_
  have hPc := hP.sub (ws' := []) [] rfl
  refine zk_ri (va_runS (As := [.int (oI pq), .int (-1), .int (nI 5)]) (rest := []) ⟨hx, hb, hml, hown, hts⟩ (c_Mo_outside l D cI cL cZ cW cR (oI pq) (-1 : Int32) (nI 5)) (cwS 3 hts (zk_gS (fun _ h => List.mem_cons_of_mem _ h) ml_Mo_81 sm_Mo_outside in_Mo co_Mo_outside) rfl rfl rfl ⟨rfl, hd_Mo_outside⟩ ⟨Nat.le_of_ble_eq_true rfl, Nat.le_of_ble_eq_true rfl⟩) (zk_sr hN hK hPc) rfl rfl hl.1 rfl (lv_room (Nat.le_of_ble_eq_true rfl)) d_Mo_over_17 ⟨Nat.zero_le _, Nat.zero_le _⟩) ?_
  refine zk_ifb_ne (tgt := 46) hx hb d_Mo_over_20 rfl (fun hq => absurd hq (fun q => absurd (of_decide_eq_true q) (oI_in hpq))) (fun _ => ?_)
  refine lv_iload_n hx hb d_Mo_over_23 rfl (lv_at hl 3 rfl) ?_
  refine lv_iconst (v := (-1)) hx hb d_Mo_over_24 (by decide) ?_
  refine lv_iconst (v := nI 5) hx hb d_Mo_over_25 (by decide) ?_
  have hPc := hP.sub (ws' := []) [] rfl
  refine zk_ri (va_runS (As := [.int (nI oj), .int (-1), .int (nI 5)]) (rest := []) ⟨hx, hb, hml, hown, hts⟩ (c_Mo_outside l D cI cL cZ cW cR (nI oj) (-1 : Int32) (nI 5)) (cwS 3 hts (zk_gS (fun _ h => List.mem_cons_of_mem _ h) ml_Mo_81 sm_Mo_outside in_Mo co_Mo_outside) rfl rfl rfl ⟨rfl, hd_Mo_outside⟩ ⟨Nat.le_of_ble_eq_true rfl, Nat.le_of_ble_eq_true rfl⟩) (zk_sr hN hK hPc) rfl rfl hl.1 rfl (lv_room (Nat.le_of_ble_eq_true rfl)) d_Mo_over_26 ⟨Nat.zero_le _, Nat.zero_le _⟩) ?_
  refine zk_ifb_ne (tgt := 46) hx hb d_Mo_over_29 rfl (fun hq => absurd hq (fun q => absurd (of_decide_eq_true q) (oI_in (o := some oj) (fun q h => by cases h; omega)))) (fun _ => ?_)
  refine lv_aload_n hx hb d_Mo_over_32 rfl (lv_at hl 0 rfl) ?_
  refine va_get (C := R_Mo) (T := F_Mo) (N := 44) hx hb hts (fun w h => List.mem_cons_of_mem _ (hin_Mo w h)) hown hK hP 0 rfl rfl 16 (by decide) (hts _ (List.mem_cons_of_mem _ fl_Mo_41)) (fun _ h => h) rfl d_Mo_over_33 ?_
  refine lv_iload_n hx hb d_Mo_over_36 rfl (lv_at hl 1 rfl) ?_
  refine zk_bald hx hb hK hP 4 2 rfl rfl (by omega) (by omega) d_Mo_over_37 ?_
  refine zk_ifb_eq (tgt := 48) hx hb d_Mo_over_38 rfl (fun h38 => ?_) (fun h38 => ?_)
  · skip
    refine lv_aload_n hx hb d_Mo_over_48 rfl (lv_at hl 0 rfl) ?_
    refine va_get (C := R_Mo) (T := F_Mo) (N := 44) hx hb hts (fun w h => List.mem_cons_of_mem _ (hin_Mo w h)) hown hK hP 0 rfl rfl 13 (by decide) (hts _ (List.mem_cons_of_mem _ fl_Mo_31)) (fun _ h => h) rfl d_Mo_over_49 ?_
    refine lv_iload_n hx hb d_Mo_over_52 rfl (lv_at hl 1 rfl) ?_
    refine lv_iload_n hx hb d_Mo_over_53 rfl (lv_at hl 2 rfl) ?_
    refine zk_oast (x := pq) hx hb hK hP hD hS 1 0 rfl rfl (by omega) (by omega) d_Mo_over_54 (fun H locs hP hD hS => ?_)
    have hP : va_P D vwCl [(o, .inr (9, [(ϕ 0), (ϕ 1), (ϕ 2), (ϕ 3), (ϕ 4), (ϕ 5), (ϕ 6), (ϕ 7), (ϕ 8), .int (nI wc), (ϕ 10), (ϕ 11), (ϕ 12), .ref a_wPart, .ref a_wOrder, .ref a_wDown, .ref a_wRange, (ϕ 17), (ϕ 18), (ϕ 19), (ϕ 20), (ϕ 21), (ϕ 22), (ϕ 23), (ϕ 24), (ϕ 25), (ϕ 26), (ϕ 27), (ϕ 28), (ϕ 29), (ϕ 30), (ϕ 31), (ϕ 32), (ϕ 33), (ϕ 34), (ϕ 35), (ϕ 36), (ϕ 37), (ϕ 38), (ϕ 39), (ϕ 40), (ϕ 41), (ϕ 42), (ϕ 43)])), (a_wPart, .inl (cI, 3, .inl (zO (va_up po w pq)))), (a_wOrder, .inl (cI, 3, .inl (zO oo))), (a_wDown, .inl (cZ, 3, .inl (zZ wd))), (a_wRange, .inl (cZ, 3, .inl (zZ wg)))] H := hP
    have hD : va_D A [(o, .inr (9, [(ϕ 0), (ϕ 1), (ϕ 2), (ϕ 3), (ϕ 4), (ϕ 5), (ϕ 6), (ϕ 7), (ϕ 8), .int (nI wc), (ϕ 10), (ϕ 11), (ϕ 12), .ref a_wPart, .ref a_wOrder, .ref a_wDown, .ref a_wRange, (ϕ 17), (ϕ 18), (ϕ 19), (ϕ 20), (ϕ 21), (ϕ 22), (ϕ 23), (ϕ 24), (ϕ 25), (ϕ 26), (ϕ 27), (ϕ 28), (ϕ 29), (ϕ 30), (ϕ 31), (ϕ 32), (ϕ 33), (ϕ 34), (ϕ 35), (ϕ 36), (ϕ 37), (ϕ 38), (ϕ 39), (ϕ 40), (ϕ 41), (ϕ 42), (ϕ 43)])), (a_wPart, .inl (cI, 3, .inl (zO (va_up po w pq)))), (a_wOrder, .inl (cI, 3, .inl (zO oo))), (a_wDown, .inl (cZ, 3, .inl (zZ wd))), (a_wRange, .inl (cZ, 3, .inl (zZ wg)))] := hD
    refine lv_aload_n hx hb d_Mo_over_55 rfl (lv_at hl 0 rfl) ?_
    refine va_get (C := R_Mo) (T := F_Mo) (N := 44) hx hb hts (fun w h => List.mem_cons_of_mem _ (hin_Mo w h)) hown hK hP 0 rfl rfl 14 (by decide) (hts _ (List.mem_cons_of_mem _ fl_Mo_34)) (fun _ h => h) rfl d_Mo_over_56 ?_
    refine lv_iload_n hx hb d_Mo_over_59 rfl (lv_at hl 1 rfl) ?_
    refine lv_iload_n hx hb d_Mo_over_60 rfl (lv_at hl 3 rfl) ?_
    refine zk_topi (show (nI oj) = oI (some oj) from rfl) ?_
    refine zk_oast (x := (some oj)) hx hb hK hP hD hS 2 0 rfl rfl (by omega) (by omega) d_Mo_over_61 (fun H locs hP hD hS => ?_)
    have hP : va_P D vwCl [(o, .inr (9, [(ϕ 0), (ϕ 1), (ϕ 2), (ϕ 3), (ϕ 4), (ϕ 5), (ϕ 6), (ϕ 7), (ϕ 8), .int (nI wc), (ϕ 10), (ϕ 11), (ϕ 12), .ref a_wPart, .ref a_wOrder, .ref a_wDown, .ref a_wRange, (ϕ 17), (ϕ 18), (ϕ 19), (ϕ 20), (ϕ 21), (ϕ 22), (ϕ 23), (ϕ 24), (ϕ 25), (ϕ 26), (ϕ 27), (ϕ 28), (ϕ 29), (ϕ 30), (ϕ 31), (ϕ 32), (ϕ 33), (ϕ 34), (ϕ 35), (ϕ 36), (ϕ 37), (ϕ 38), (ϕ 39), (ϕ 40), (ϕ 41), (ϕ 42), (ϕ 43)])), (a_wPart, .inl (cI, 3, .inl (zO (va_up po w pq)))), (a_wOrder, .inl (cI, 3, .inl (zO (va_up oo w (some oj))))), (a_wDown, .inl (cZ, 3, .inl (zZ wd))), (a_wRange, .inl (cZ, 3, .inl (zZ wg)))] H := hP
    have hD : va_D A [(o, .inr (9, [(ϕ 0), (ϕ 1), (ϕ 2), (ϕ 3), (ϕ 4), (ϕ 5), (ϕ 6), (ϕ 7), (ϕ 8), .int (nI wc), (ϕ 10), (ϕ 11), (ϕ 12), .ref a_wPart, .ref a_wOrder, .ref a_wDown, .ref a_wRange, (ϕ 17), (ϕ 18), (ϕ 19), (ϕ 20), (ϕ 21), (ϕ 22), (ϕ 23), (ϕ 24), (ϕ 25), (ϕ 26), (ϕ 27), (ϕ 28), (ϕ 29), (ϕ 30), (ϕ 31), (ϕ 32), (ϕ 33), (ϕ 34), (ϕ 35), (ϕ 36), (ϕ 37), (ϕ 38), (ϕ 39), (ϕ 40), (ϕ 41), (ϕ 42), (ϕ 43)])), (a_wPart, .inl (cI, 3, .inl (zO (va_up po w pq)))), (a_wOrder, .inl (cI, 3, .inl (zO (va_up oo w (some oj))))), (a_wDown, .inl (cZ, 3, .inl (zZ wd))), (a_wRange, .inl (cZ, 3, .inl (zZ wg)))] := hD
    refine lv_aload_n hx hb d_Mo_over_62 rfl (lv_at hl 0 rfl) ?_
    refine va_get (C := R_Mo) (T := F_Mo) (N := 44) hx hb hts (fun w h => List.mem_cons_of_mem _ (hin_Mo w h)) hown hK hP 0 rfl rfl 15 (by decide) (hts _ (List.mem_cons_of_mem _ fl_Mo_37)) (fun _ h => h) rfl d_Mo_over_63 ?_
    refine lv_iload_n hx hb d_Mo_over_66 rfl (lv_at hl 1 rfl) ?_
    refine lv_iload hx hb d_Mo_over_67 (lv_at hl 4 rfl) ?_
    refine zk_bast hx hb hK hP hD hS 3 2 rfl rfl (by omega) (by omega) d_Mo_over_69 (fun H locs hP hD hS => ?_)
    have hP : va_P D vwCl [(o, .inr (9, [(ϕ 0), (ϕ 1), (ϕ 2), (ϕ 3), (ϕ 4), (ϕ 5), (ϕ 6), (ϕ 7), (ϕ 8), .int (nI wc), (ϕ 10), (ϕ 11), (ϕ 12), .ref a_wPart, .ref a_wOrder, .ref a_wDown, .ref a_wRange, (ϕ 17), (ϕ 18), (ϕ 19), (ϕ 20), (ϕ 21), (ϕ 22), (ϕ 23), (ϕ 24), (ϕ 25), (ϕ 26), (ϕ 27), (ϕ 28), (ϕ 29), (ϕ 30), (ϕ 31), (ϕ 32), (ϕ 33), (ϕ 34), (ϕ 35), (ϕ 36), (ϕ 37), (ϕ 38), (ϕ 39), (ϕ 40), (ϕ 41), (ϕ 42), (ϕ 43)])), (a_wPart, .inl (cI, 3, .inl (zO (va_up po w pq)))), (a_wOrder, .inl (cI, 3, .inl (zO (va_up oo w (some oj))))), (a_wDown, .inl (cZ, 3, .inl (zZ (va_up wd w d0)))), (a_wRange, .inl (cZ, 3, .inl (zZ wg)))] H := hP
    have hD : va_D A [(o, .inr (9, [(ϕ 0), (ϕ 1), (ϕ 2), (ϕ 3), (ϕ 4), (ϕ 5), (ϕ 6), (ϕ 7), (ϕ 8), .int (nI wc), (ϕ 10), (ϕ 11), (ϕ 12), .ref a_wPart, .ref a_wOrder, .ref a_wDown, .ref a_wRange, (ϕ 17), (ϕ 18), (ϕ 19), (ϕ 20), (ϕ 21), (ϕ 22), (ϕ 23), (ϕ 24), (ϕ 25), (ϕ 26), (ϕ 27), (ϕ 28), (ϕ 29), (ϕ 30), (ϕ 31), (ϕ 32), (ϕ 33), (ϕ 34), (ϕ 35), (ϕ 36), (ϕ 37), (ϕ 38), (ϕ 39), (ϕ 40), (ϕ 41), (ϕ 42), (ϕ 43)])), (a_wPart, .inl (cI, 3, .inl (zO (va_up po w pq)))), (a_wOrder, .inl (cI, 3, .inl (zO (va_up oo w (some oj))))), (a_wDown, .inl (cZ, 3, .inl (zZ (va_up wd w d0)))), (a_wRange, .inl (cZ, 3, .inl (zZ wg)))] := hD
    refine lv_iconst (v := zb true) hx hb d_Mo_over_70 (by decide) ?_
    exact zk_zretW hx hb hr hlk hAe hQ hK (()) (rfl) hP hD hS d_Mo_over_71
  · skip
    refine lv_iload_n hx hb d_Mo_over_41 rfl (lv_at hl 3 rfl) ?_
    refine lv_iconst (v := (-1)) hx hb d_Mo_over_42 (by decide) ?_
    refine lv_icmp_ne (tgt := 48) hx hb d_Mo_over_43 rfl (fun _ => ?_) (fun hq => absurd hq (zk_nm1 (by omega)))
    refine lv_aload_n hx hb d_Mo_over_48 rfl (lv_at hl 0 rfl) ?_
    refine va_get (C := R_Mo) (T := F_Mo) (N := 44) hx hb hts (fun w h => List.mem_cons_of_mem _ (hin_Mo w h)) hown hK hP 0 rfl rfl 13 (by decide) (hts _ (List.mem_cons_of_mem _ fl_Mo_31)) (fun _ h => h) rfl d_Mo_over_49 ?_
    refine lv_iload_n hx hb d_Mo_over_52 rfl (lv_at hl 1 rfl) ?_
    refine lv_iload_n hx hb d_Mo_over_53 rfl (lv_at hl 2 rfl) ?_
    refine zk_oast (x := pq) hx hb hK hP hD hS 1 0 rfl rfl (by omega) (by omega) d_Mo_over_54 (fun H locs hP hD hS => ?_)
    have hP : va_P D vwCl [(o, .inr (9, [(ϕ 0), (ϕ 1), (ϕ 2), (ϕ 3), (ϕ 4), (ϕ 5), (ϕ 6), (ϕ 7), (ϕ 8), .int (nI wc), (ϕ 10), (ϕ 11), (ϕ 12), .ref a_wPart, .ref a_wOrder, .ref a_wDown, .ref a_wRange, (ϕ 17), (ϕ 18), (ϕ 19), (ϕ 20), (ϕ 21), (ϕ 22), (ϕ 23), (ϕ 24), (ϕ 25), (ϕ 26), (ϕ 27), (ϕ 28), (ϕ 29), (ϕ 30), (ϕ 31), (ϕ 32), (ϕ 33), (ϕ 34), (ϕ 35), (ϕ 36), (ϕ 37), (ϕ 38), (ϕ 39), (ϕ 40), (ϕ 41), (ϕ 42), (ϕ 43)])), (a_wPart, .inl (cI, 3, .inl (zO (va_up po w pq)))), (a_wOrder, .inl (cI, 3, .inl (zO oo))), (a_wDown, .inl (cZ, 3, .inl (zZ wd))), (a_wRange, .inl (cZ, 3, .inl (zZ wg)))] H := hP
    have hD : va_D A [(o, .inr (9, [(ϕ 0), (ϕ 1), (ϕ 2), (ϕ 3), (ϕ 4), (ϕ 5), (ϕ 6), (ϕ 7), (ϕ 8), .int (nI wc), (ϕ 10), (ϕ 11), (ϕ 12), .ref a_wPart, .ref a_wOrder, .ref a_wDown, .ref a_wRange, (ϕ 17), (ϕ 18), (ϕ 19), (ϕ 20), (ϕ 21), (ϕ 22), (ϕ 23), (ϕ 24), (ϕ 25), (ϕ 26), (ϕ 27), (ϕ 28), (ϕ 29), (ϕ 30), (ϕ 31), (ϕ 32), (ϕ 33), (ϕ 34), (ϕ 35), (ϕ 36), (ϕ 37), (ϕ 38), (ϕ 39), (ϕ 40), (ϕ 41), (ϕ 42), (ϕ 43)])), (a_wPart, .inl (cI, 3, .inl (zO (va_up po w pq)))), (a_wOrder, .inl (cI, 3, .inl (zO oo))), (a_wDown, .inl (cZ, 3, .inl (zZ wd))), (a_wRange, .inl (cZ, 3, .inl (zZ wg)))] := hD
    refine lv_aload_n hx hb d_Mo_over_55 rfl (lv_at hl 0 rfl) ?_
    refine va_get (C := R_Mo) (T := F_Mo) (N := 44) hx hb hts (fun w h => List.mem_cons_of_mem _ (hin_Mo w h)) hown hK hP 0 rfl rfl 14 (by decide) (hts _ (List.mem_cons_of_mem _ fl_Mo_34)) (fun _ h => h) rfl d_Mo_over_56 ?_
    refine lv_iload_n hx hb d_Mo_over_59 rfl (lv_at hl 1 rfl) ?_
    refine lv_iload_n hx hb d_Mo_over_60 rfl (lv_at hl 3 rfl) ?_
    refine zk_topi (show (nI oj) = oI (some oj) from rfl) ?_
    refine zk_oast (x := (some oj)) hx hb hK hP hD hS 2 0 rfl rfl (by omega) (by omega) d_Mo_over_61 (fun H locs hP hD hS => ?_)
    have hP : va_P D vwCl [(o, .inr (9, [(ϕ 0), (ϕ 1), (ϕ 2), (ϕ 3), (ϕ 4), (ϕ 5), (ϕ 6), (ϕ 7), (ϕ 8), .int (nI wc), (ϕ 10), (ϕ 11), (ϕ 12), .ref a_wPart, .ref a_wOrder, .ref a_wDown, .ref a_wRange, (ϕ 17), (ϕ 18), (ϕ 19), (ϕ 20), (ϕ 21), (ϕ 22), (ϕ 23), (ϕ 24), (ϕ 25), (ϕ 26), (ϕ 27), (ϕ 28), (ϕ 29), (ϕ 30), (ϕ 31), (ϕ 32), (ϕ 33), (ϕ 34), (ϕ 35), (ϕ 36), (ϕ 37), (ϕ 38), (ϕ 39), (ϕ 40), (ϕ 41), (ϕ 42), (ϕ 43)])), (a_wPart, .inl (cI, 3, .inl (zO (va_up po w pq)))), (a_wOrder, .inl (cI, 3, .inl (zO (va_up oo w (some oj))))), (a_wDown, .inl (cZ, 3, .inl (zZ wd))), (a_wRange, .inl (cZ, 3, .inl (zZ wg)))] H := hP
    have hD : va_D A [(o, .inr (9, [(ϕ 0), (ϕ 1), (ϕ 2), (ϕ 3), (ϕ 4), (ϕ 5), (ϕ 6), (ϕ 7), (ϕ 8), .int (nI wc), (ϕ 10), (ϕ 11), (ϕ 12), .ref a_wPart, .ref a_wOrder, .ref a_wDown, .ref a_wRange, (ϕ 17), (ϕ 18), (ϕ 19), (ϕ 20), (ϕ 21), (ϕ 22), (ϕ 23), (ϕ 24), (ϕ 25), (ϕ 26), (ϕ 27), (ϕ 28), (ϕ 29), (ϕ 30), (ϕ 31), (ϕ 32), (ϕ 33), (ϕ 34), (ϕ 35), (ϕ 36), (ϕ 37), (ϕ 38), (ϕ 39), (ϕ 40), (ϕ 41), (ϕ 42), (ϕ 43)])), (a_wPart, .inl (cI, 3, .inl (zO (va_up po w pq)))), (a_wOrder, .inl (cI, 3, .inl (zO (va_up oo w (some oj))))), (a_wDown, .inl (cZ, 3, .inl (zZ wd))), (a_wRange, .inl (cZ, 3, .inl (zZ wg)))] := hD
    refine lv_aload_n hx hb d_Mo_over_62 rfl (lv_at hl 0 rfl) ?_
    refine va_get (C := R_Mo) (T := F_Mo) (N := 44) hx hb hts (fun w h => List.mem_cons_of_mem _ (hin_Mo w h)) hown hK hP 0 rfl rfl 15 (by decide) (hts _ (List.mem_cons_of_mem _ fl_Mo_37)) (fun _ h => h) rfl d_Mo_over_63 ?_
    refine lv_iload_n hx hb d_Mo_over_66 rfl (lv_at hl 1 rfl) ?_
    refine lv_iload hx hb d_Mo_over_67 (lv_at hl 4 rfl) ?_
    refine zk_bast hx hb hK hP hD hS 3 2 rfl rfl (by omega) (by omega) d_Mo_over_69 (fun H locs hP hD hS => ?_)
    have hP : va_P D vwCl [(o, .inr (9, [(ϕ 0), (ϕ 1), (ϕ 2), (ϕ 3), (ϕ 4), (ϕ 5), (ϕ 6), (ϕ 7), (ϕ 8), .int (nI wc), (ϕ 10), (ϕ 11), (ϕ 12), .ref a_wPart, .ref a_wOrder, .ref a_wDown, .ref a_wRange, (ϕ 17), (ϕ 18), (ϕ 19), (ϕ 20), (ϕ 21), (ϕ 22), (ϕ 23), (ϕ 24), (ϕ 25), (ϕ 26), (ϕ 27), (ϕ 28), (ϕ 29), (ϕ 30), (ϕ 31), (ϕ 32), (ϕ 33), (ϕ 34), (ϕ 35), (ϕ 36), (ϕ 37), (ϕ 38), (ϕ 39), (ϕ 40), (ϕ 41), (ϕ 42), (ϕ 43)])), (a_wPart, .inl (cI, 3, .inl (zO (va_up po w pq)))), (a_wOrder, .inl (cI, 3, .inl (zO (va_up oo w (some oj))))), (a_wDown, .inl (cZ, 3, .inl (zZ (va_up wd w d0)))), (a_wRange, .inl (cZ, 3, .inl (zZ wg)))] H := hP
    have hD : va_D A [(o, .inr (9, [(ϕ 0), (ϕ 1), (ϕ 2), (ϕ 3), (ϕ 4), (ϕ 5), (ϕ 6), (ϕ 7), (ϕ 8), .int (nI wc), (ϕ 10), (ϕ 11), (ϕ 12), .ref a_wPart, .ref a_wOrder, .ref a_wDown, .ref a_wRange, (ϕ 17), (ϕ 18), (ϕ 19), (ϕ 20), (ϕ 21), (ϕ 22), (ϕ 23), (ϕ 24), (ϕ 25), (ϕ 26), (ϕ 27), (ϕ 28), (ϕ 29), (ϕ 30), (ϕ 31), (ϕ 32), (ϕ 33), (ϕ 34), (ϕ 35), (ϕ 36), (ϕ 37), (ϕ 38), (ϕ 39), (ϕ 40), (ϕ 41), (ϕ 42), (ϕ 43)])), (a_wPart, .inl (cI, 3, .inl (zO (va_up po w pq)))), (a_wOrder, .inl (cI, 3, .inl (zO (va_up oo w (some oj))))), (a_wDown, .inl (cZ, 3, .inl (zZ (va_up wd w d0)))), (a_wRange, .inl (cZ, 3, .inl (zZ wg)))] := hD
    refine lv_iconst (v := zb true) hx hb d_Mo_over_70 (by decide) ?_
    exact zk_zretW hx hb hr hlk hAe hQ hK (()) (rfl) hP hD hS d_Mo_over_71
set_option maxHeartbeats 4000000 in
set_option maxRecDepth 100000 in
theorem c_Mo_over_r (l : Launch) (D : va_G) (cI cL cZ cW cR : ClassId) (o : Nat) (ϕ : Nat → Value) (a_wRange : Nat) (wc : Nat) (wg : Nat → Bool) (w : Nat) (hw : w < wc) (hwc : wc ≤ 3) (pq : Option Nat) (d0 : Bool) (hpq : ∀ q, pq = some q → q < 6) (hwg : wg w = true) : Met l y_Mo_over ws_Mo_over rm1_30 (zPr D vwCl (zT cI cL cZ cW cR) [(o, .inr (9, [(ϕ 0), (ϕ 1), (ϕ 2), (ϕ 3), (ϕ 4), (ϕ 5), (ϕ 6), (ϕ 7), (ϕ 8), .int (nI wc), (ϕ 10), (ϕ 11), (ϕ 12), (ϕ 13), (ϕ 14), (ϕ 15), .ref a_wRange, (ϕ 17), (ϕ 18), (ϕ 19), (ϕ 20), (ϕ 21), (ϕ 22), (ϕ 23), (ϕ 24), (ϕ 25), (ϕ 26), (ϕ 27), (ϕ 28), (ϕ 29), (ϕ 30), (ϕ 31), (ϕ 32), (ϕ 33), (ϕ 34), (ϕ 35), (ϕ 36), (ϕ 37), (ϕ 38), (ϕ 39), (ϕ 40), (ϕ 41), (ϕ 42), (ϕ 43)])), (a_wRange, .inl (cZ, 3, .inl (zZ wg)))] [.ref o, .int (nI w), .int (oI pq), .int (-1), .int (zb d0)]) (zSi (zb false)) 0 0 (fun _ => False) := by
  refine zk_enterR (cc := b_Mo_over) (maxL := 5) (ret := some .boolean) (by decide) rfl (Nat.le_of_ble_eq_true rfl) ?_
  intro p e s m args below meth c ls Q hx hb hml hr hlk hown hts hP hK hN hl hQ
  have hl : lv_has ls 5 [(0, .ref o), (1, .int (nI w)), (2, .int (oI pq)), (3, .int (-1)), (4, .int (zb d0))] := hl
  refine lv_iload_n hx hb d_Mo_over_0 rfl (lv_at hl 1 rfl) ?_
  refine lv_iconst (v := nI 0) hx hb d_Mo_over_1 (by decide) ?_
  refine lv_aload_n hx hb d_Mo_over_2 rfl (lv_at hl 0 rfl) ?_
  refine va_get (C := R_Mo) (T := F_Mo) (N := 44) hx hb hts (fun w h => List.mem_cons_of_mem _ (hin_Mo w h)) hown hK hP 0 rfl rfl 9 (by decide) (hts _ (List.mem_cons_of_mem _ fl_Mo_92)) (fun _ h => h) rfl d_Mo_over_3 ?_
  refine lv_iconst (v := nI 1) hx hb d_Mo_over_6 (by decide) ?_
  refine lv_isub hx hb d_Mo_over_7 ?_
  refine zk_topi (show ((nI wc) - (nI 1)) = nI (wc - 1) from pk_sub (by omega)) ?_
  have hPc := hP.sub (ws' := []) [] rfl
  refine zk_ri (va_runS (As := [.int (nI w), .int (nI 0), .int (nI (wc - 1))]) (rest := []) ⟨hx, hb, hml, hown, hts⟩ (c_Mo_outside l D cI cL cZ cW cR (nI w) (nI 0) (nI (wc - 1))) (cwS 3 hts (zk_gS (fun _ h => List.mem_cons_of_mem _ h) ml_Mo_81 sm_Mo_outside in_Mo co_Mo_outside) rfl rfl rfl ⟨rfl, hd_Mo_outside⟩ ⟨Nat.le_of_ble_eq_true rfl, Nat.le_of_ble_eq_true rfl⟩) (zk_sr hN hK hPc) rfl rfl hl.1 rfl (lv_room (Nat.le_of_ble_eq_true rfl)) d_Mo_over_8 ⟨Nat.zero_le _, Nat.zero_le _⟩) ?_
  refine zk_ifb_ne (tgt := 46) hx hb d_Mo_over_11 rfl (fun hq => absurd hq (fun q => absurd (of_decide_eq_true q) (fun z => z.elim (nI_nlt (by omega) (by omega)) (nI_nlt (by omega) (by omega))))) (fun _ => ?_)
  refine lv_iload_n hx hb d_Mo_over_14 rfl (lv_at hl 2 rfl) ?_
  refine lv_iconst (v := (-1)) hx hb d_Mo_over_15 (by decide) ?_
  refine lv_iconst (v := nI 5) hx hb d_Mo_over_16 (by decide) ?_
  have hPc := hP.sub (ws' := []) [] rfl
  refine zk_ri (va_runS (As := [.int (oI pq), .int (-1), .int (nI 5)]) (rest := []) ⟨hx, hb, hml, hown, hts⟩ (c_Mo_outside l D cI cL cZ cW cR (oI pq) (-1 : Int32) (nI 5)) (cwS 3 hts (zk_gS (fun _ h => List.mem_cons_of_mem _ h) ml_Mo_81 sm_Mo_outside in_Mo co_Mo_outside) rfl rfl rfl ⟨rfl, hd_Mo_outside⟩ ⟨Nat.le_of_ble_eq_true rfl, Nat.le_of_ble_eq_true rfl⟩) (zk_sr hN hK hPc) rfl rfl hl.1 rfl (lv_room (Nat.le_of_ble_eq_true rfl)) d_Mo_over_17 ⟨Nat.zero_le _, Nat.zero_le _⟩) ?_
  refine zk_ifb_ne (tgt := 46) hx hb d_Mo_over_20 rfl (fun hq => absurd hq (fun q => absurd (of_decide_eq_true q) (oI_in hpq))) (fun _ => ?_)
  refine lv_iload_n hx hb d_Mo_over_23 rfl (lv_at hl 3 rfl) ?_
  refine lv_iconst (v := (-1)) hx hb d_Mo_over_24 (by decide) ?_
  refine lv_iconst (v := nI 5) hx hb d_Mo_over_25 (by decide) ?_
  have hPc := hP.sub (ws' := []) [] rfl
  refine zk_ri (va_runS (As := [.int (-1), .int (-1), .int (nI 5)]) (rest := []) ⟨hx, hb, hml, hown, hts⟩ (c_Mo_outside l D cI cL cZ cW cR (-1 : Int32) (-1 : Int32) (nI 5)) (cwS 3 hts (zk_gS (fun _ h => List.mem_cons_of_mem _ h) ml_Mo_81 sm_Mo_outside in_Mo co_Mo_outside) rfl rfl rfl ⟨rfl, hd_Mo_outside⟩ ⟨Nat.le_of_ble_eq_true rfl, Nat.le_of_ble_eq_true rfl⟩) (zk_sr hN hK hPc) rfl rfl hl.1 rfl (lv_room (Nat.le_of_ble_eq_true rfl)) d_Mo_over_26 ⟨Nat.zero_le _, Nat.zero_le _⟩) ?_
  refine zk_ifb_ne (tgt := 46) hx hb d_Mo_over_29 rfl (fun hq => absurd hq (fun q => absurd (of_decide_eq_true q) (oI_in (o := none) (fun q h => by cases h)))) (fun _ => ?_)
  refine lv_aload_n hx hb d_Mo_over_32 rfl (lv_at hl 0 rfl) ?_
  refine va_get (C := R_Mo) (T := F_Mo) (N := 44) hx hb hts (fun w h => List.mem_cons_of_mem _ (hin_Mo w h)) hown hK hP 0 rfl rfl 16 (by decide) (hts _ (List.mem_cons_of_mem _ fl_Mo_41)) (fun _ h => h) rfl d_Mo_over_33 ?_
  refine lv_iload_n hx hb d_Mo_over_36 rfl (lv_at hl 1 rfl) ?_
  refine zk_bald hx hb hK hP 1 2 rfl rfl (by omega) (by omega) d_Mo_over_37 ?_
  refine zk_ifb_eq (tgt := 48) hx hb d_Mo_over_38 rfl (fun hq => absurd hq (fun q => by rw [hwg] at q; exact Bool.false_ne_true q.symm)) (fun _ => ?_)
  refine lv_iload_n hx hb d_Mo_over_41 rfl (lv_at hl 3 rfl) ?_
  refine lv_iconst (v := (-1)) hx hb d_Mo_over_42 (by decide) ?_
  refine lv_icmp_ne (tgt := 48) hx hb d_Mo_over_43 rfl (fun hq => absurd hq (fun q => q rfl)) (fun _ => ?_)
  refine lv_iconst (v := zb false) hx hb d_Mo_over_46 (by decide) ?_
  exact zk_zretR hx hb hr hlk hQ (rfl) d_Mo_over_47
set_option maxHeartbeats 4000000 in
set_option maxRecDepth 100000 in
theorem c_Mo_over_b (l : Launch) (D : va_G) (cI cL cZ cW cR : ClassId) (o : Nat) (ϕ : Nat → Value) (wc : Nat) (x y z : Int32) (d0 : Bool) (hbad : (x < nI 0 ∨ nI wc - nI 1 < x) ∨ (y < (-1 : Int32) ∨ nI 5 < y) ∨ (z < (-1 : Int32) ∨ nI 5 < z)) : Met l y_Mo_over ws_Mo_over rm1_30 (zPr D vwCl (zT cI cL cZ cW cR) [(o, .inr (9, [(ϕ 0), (ϕ 1), (ϕ 2), (ϕ 3), (ϕ 4), (ϕ 5), (ϕ 6), (ϕ 7), (ϕ 8), .int (nI wc), (ϕ 10), (ϕ 11), (ϕ 12), (ϕ 13), (ϕ 14), (ϕ 15), (ϕ 16), (ϕ 17), (ϕ 18), (ϕ 19), (ϕ 20), (ϕ 21), (ϕ 22), (ϕ 23), (ϕ 24), (ϕ 25), (ϕ 26), (ϕ 27), (ϕ 28), (ϕ 29), (ϕ 30), (ϕ 31), (ϕ 32), (ϕ 33), (ϕ 34), (ϕ 35), (ϕ 36), (ϕ 37), (ϕ 38), (ϕ 39), (ϕ 40), (ϕ 41), (ϕ 42), (ϕ 43)]))] [.ref o, .int x, .int y, .int z, .int (zb d0)]) (zSi (zb false)) 0 0 (fun _ => False) := by
  refine zk_enterR (cc := b_Mo_over) (maxL := 5) (ret := some .boolean) (by decide) rfl (Nat.le_of_ble_eq_true rfl) ?_
  intro p e s m args below meth c ls Q hx hb hml hr hlk hown hts hP hK hN hl hQ
  have hl : lv_has ls 5 [(0, .ref o), (1, .int x), (2, .int y), (3, .int z), (4, .int (zb d0))] := hl
  refine lv_iload_n hx hb d_Mo_over_0 rfl (lv_at hl 1 rfl) ?_
  refine lv_iconst (v := nI 0) hx hb d_Mo_over_1 (by decide) ?_
  refine lv_aload_n hx hb d_Mo_over_2 rfl (lv_at hl 0 rfl) ?_
  refine va_get (C := R_Mo) (T := F_Mo) (N := 44) hx hb hts (fun w h => List.mem_cons_of_mem _ (hin_Mo w h)) hown hK hP 0 rfl rfl 9 (by decide) (hts _ (List.mem_cons_of_mem _ fl_Mo_92)) (fun _ h => h) rfl d_Mo_over_3 ?_
  refine lv_iconst (v := nI 1) hx hb d_Mo_over_6 (by decide) ?_
  refine lv_isub hx hb d_Mo_over_7 ?_
  have hPc := hP.sub (ws' := []) [] rfl
  refine zk_ri (va_runS (As := [.int x, .int (nI 0), .int ((nI wc) - (nI 1))]) (rest := []) ⟨hx, hb, hml, hown, hts⟩ (c_Mo_outside l D cI cL cZ cW cR x (nI 0) ((nI wc) - (nI 1))) (cwS 3 hts (zk_gS (fun _ h => List.mem_cons_of_mem _ h) ml_Mo_81 sm_Mo_outside in_Mo co_Mo_outside) rfl rfl rfl ⟨rfl, hd_Mo_outside⟩ ⟨Nat.le_of_ble_eq_true rfl, Nat.le_of_ble_eq_true rfl⟩) (zk_sr hN hK hPc) rfl rfl hl.1 rfl (lv_room (Nat.le_of_ble_eq_true rfl)) d_Mo_over_8 ⟨Nat.zero_le _, Nat.zero_le _⟩) ?_
  refine zk_ifb_ne (tgt := 46) hx hb d_Mo_over_11 rfl (fun h11 => ?_) (fun h11 => ?_)
  · skip
    refine lv_iconst (v := zb false) hx hb d_Mo_over_46 (by decide) ?_
    exact zk_zretR hx hb hr hlk hQ (rfl) d_Mo_over_47
  · skip
    refine lv_iload_n hx hb d_Mo_over_14 rfl (lv_at hl 2 rfl) ?_
    refine lv_iconst (v := (-1)) hx hb d_Mo_over_15 (by decide) ?_
    refine lv_iconst (v := nI 5) hx hb d_Mo_over_16 (by decide) ?_
    have hPc := hP.sub (ws' := []) [] rfl
    refine zk_ri (va_runS (As := [.int y, .int (-1), .int (nI 5)]) (rest := []) ⟨hx, hb, hml, hown, hts⟩ (c_Mo_outside l D cI cL cZ cW cR y (-1 : Int32) (nI 5)) (cwS 3 hts (zk_gS (fun _ h => List.mem_cons_of_mem _ h) ml_Mo_81 sm_Mo_outside in_Mo co_Mo_outside) rfl rfl rfl ⟨rfl, hd_Mo_outside⟩ ⟨Nat.le_of_ble_eq_true rfl, Nat.le_of_ble_eq_true rfl⟩) (zk_sr hN hK hPc) rfl rfl hl.1 rfl (lv_room (Nat.le_of_ble_eq_true rfl)) d_Mo_over_17 ⟨Nat.zero_le _, Nat.zero_le _⟩) ?_
    refine zk_ifb_ne (tgt := 46) hx hb d_Mo_over_20 rfl (fun h20 => ?_) (fun h20 => ?_)
    · skip
      refine lv_iconst (v := zb false) hx hb d_Mo_over_46 (by decide) ?_
      exact zk_zretR hx hb hr hlk hQ (rfl) d_Mo_over_47
    · skip
      refine lv_iload_n hx hb d_Mo_over_23 rfl (lv_at hl 3 rfl) ?_
      refine lv_iconst (v := (-1)) hx hb d_Mo_over_24 (by decide) ?_
      refine lv_iconst (v := nI 5) hx hb d_Mo_over_25 (by decide) ?_
      have hPc := hP.sub (ws' := []) [] rfl
      refine zk_ri (va_runS (As := [.int z, .int (-1), .int (nI 5)]) (rest := []) ⟨hx, hb, hml, hown, hts⟩ (c_Mo_outside l D cI cL cZ cW cR z (-1 : Int32) (nI 5)) (cwS 3 hts (zk_gS (fun _ h => List.mem_cons_of_mem _ h) ml_Mo_81 sm_Mo_outside in_Mo co_Mo_outside) rfl rfl rfl ⟨rfl, hd_Mo_outside⟩ ⟨Nat.le_of_ble_eq_true rfl, Nat.le_of_ble_eq_true rfl⟩) (zk_sr hN hK hPc) rfl rfl hl.1 rfl (lv_room (Nat.le_of_ble_eq_true rfl)) d_Mo_over_26 ⟨Nat.zero_le _, Nat.zero_le _⟩) ?_
      refine zk_ifb_ne (tgt := 46) hx hb d_Mo_over_29 rfl (fun _ => ?_) (fun hq => absurd hq (fun q => hbad.elim (of_decide_eq_false h11) (fun z => z.elim (of_decide_eq_false h20) (of_decide_eq_false q))))
      refine lv_iconst (v := zb false) hx hb d_Mo_over_46 (by decide) ?_
      exact zk_zretR hx hb hr hlk hQ (rfl) d_Mo_over_47
set_option maxHeartbeats 4000000 in
set_option maxRecDepth 100000 in
theorem c_Mo_frame_f (l : Launch) (D : va_G) (cI cL cZ cW cR : ClassId) (sz : Nat) (o : Nat) (ϕ : Nat → Value) (a_wOrder a_wRange a_wLow a_wHigh : Nat) (wc : Nat) (oo : Nat → Option Nat) (wg : Nat → Bool) (wl : Nat → Int32) (wh : Nat → Int32) (w : Nat) (hw : w < wc) (hwc : wc ≤ 3) (lo hi : Int32) (hlo : (-10 : Int32) ≤ lo ∧ lo ≤ nI 9) (hhi : (-9 : Int32) ≤ hi ∧ hi ≤ nI 10) : Met l y_Mo_frame ws_Mo_frame rm1_30 (zPw D vwCl (zT cI cL cZ cW cR) [(o, .inr (9, [(ϕ 0), (ϕ 1), (ϕ 2), (ϕ 3), (ϕ 4), (ϕ 5), (ϕ 6), (ϕ 7), (ϕ 8), .int (nI wc), (ϕ 10), (ϕ 11), (ϕ 12), (ϕ 13), .ref a_wOrder, (ϕ 15), .ref a_wRange, .ref a_wLow, .ref a_wHigh, (ϕ 19), (ϕ 20), (ϕ 21), (ϕ 22), (ϕ 23), (ϕ 24), (ϕ 25), (ϕ 26), (ϕ 27), (ϕ 28), (ϕ 29), (ϕ 30), (ϕ 31), (ϕ 32), (ϕ 33), (ϕ 34), (ϕ 35), (ϕ 36), (ϕ 37), (ϕ 38), (ϕ 39), (ϕ 40), (ϕ 41), (ϕ 42), (ϕ 43)])), (a_wOrder, .inl (cI, 3, .inl (zO oo))), (a_wRange, .inl (cZ, 3, .inl (zZ wg))), (a_wLow, .inl (cI, 3, .inl wl)), (a_wHigh, .inl (cI, 3, .inl wh))] sz [.ref o, .int (nI w), .int (zb false), .int lo, .int hi]) (zQi D vwCl (zT cI cL cZ cW cR) [(o, .inr (9, [(ϕ 0), (ϕ 1), (ϕ 2), (ϕ 3), (ϕ 4), (ϕ 5), (ϕ 6), (ϕ 7), (ϕ 8), .int (nI wc), (ϕ 10), (ϕ 11), (ϕ 12), (ϕ 13), .ref a_wOrder, (ϕ 15), .ref a_wRange, .ref a_wLow, .ref a_wHigh, (ϕ 19), (ϕ 20), (ϕ 21), (ϕ 22), (ϕ 23), (ϕ 24), (ϕ 25), (ϕ 26), (ϕ 27), (ϕ 28), (ϕ 29), (ϕ 30), (ϕ 31), (ϕ 32), (ϕ 33), (ϕ 34), (ϕ 35), (ϕ 36), (ϕ 37), (ϕ 38), (ϕ 39), (ϕ 40), (ϕ 41), (ϕ 42), (ϕ 43)])), (a_wOrder, .inl (cI, 3, .inl (zO oo))), (a_wRange, .inl (cZ, 3, .inl (zZ wg))), (a_wLow, .inl (cI, 3, .inl wl)), (a_wHigh, .inl (cI, 3, .inl wh))] sz (fun x (_ : Unit) => x = zb true) (fun _ => [(o, .inr (9, [(ϕ 0), (ϕ 1), (ϕ 2), (ϕ 3), (ϕ 4), (ϕ 5), (ϕ 6), (ϕ 7), (ϕ 8), .int (nI wc), (ϕ 10), (ϕ 11), (ϕ 12), (ϕ 13), .ref a_wOrder, (ϕ 15), .ref a_wRange, .ref a_wLow, .ref a_wHigh, (ϕ 19), (ϕ 20), (ϕ 21), (ϕ 22), (ϕ 23), (ϕ 24), (ϕ 25), (ϕ 26), (ϕ 27), (ϕ 28), (ϕ 29), (ϕ 30), (ϕ 31), (ϕ 32), (ϕ 33), (ϕ 34), (ϕ 35), (ϕ 36), (ϕ 37), (ϕ 38), (ϕ 39), (ϕ 40), (ϕ 41), (ϕ 42), (ϕ 43)])), (a_wOrder, .inl (cI, 3, .inl (zO oo))), (a_wRange, .inl (cZ, 3, .inl (zZ (va_up wg w false)))), (a_wLow, .inl (cI, 3, .inl (upd wl w lo))), (a_wHigh, .inl (cI, 3, .inl (upd wh w hi)))])) 0 0 (va_A [(o, .inr (9, [(ϕ 0), (ϕ 1), (ϕ 2), (ϕ 3), (ϕ 4), (ϕ 5), (ϕ 6), (ϕ 7), (ϕ 8), .int (nI wc), (ϕ 10), (ϕ 11), (ϕ 12), (ϕ 13), .ref a_wOrder, (ϕ 15), .ref a_wRange, .ref a_wLow, .ref a_wHigh, (ϕ 19), (ϕ 20), (ϕ 21), (ϕ 22), (ϕ 23), (ϕ 24), (ϕ 25), (ϕ 26), (ϕ 27), (ϕ 28), (ϕ 29), (ϕ 30), (ϕ 31), (ϕ 32), (ϕ 33), (ϕ 34), (ϕ 35), (ϕ 36), (ϕ 37), (ϕ 38), (ϕ 39), (ϕ 40), (ϕ 41), (ϕ 42), (ϕ 43)])), (a_wOrder, .inl (cI, 3, .inl (zO oo))), (a_wRange, .inl (cZ, 3, .inl (zZ wg))), (a_wLow, .inl (cI, 3, .inl wl)), (a_wHigh, .inl (cI, 3, .inl wh))] sz) := by
  refine zk_enterW (cc := b_Mo_frame) (maxL := 5) (ret := some .boolean) (by decide) rfl (Nat.le_of_ble_eq_true rfl) ?_
  intro p e s m args below meth c ls Q hx hb hml hr hlk hown hts hP hK hN hl hin hsz A hAe hA hD hS hQ
  subst hsz
  have hl : lv_has ls 5 [(0, .ref o), (1, .int (nI w)), (2, .int (zb false)), (3, .int lo), (4, .int hi)] := hl
  refine lv_iload_n hx hb d_Mo_frame_0 rfl (lv_at hl 1 rfl) ?_
  refine lv_iconst (v := nI 0) hx hb d_Mo_frame_1 (by decide) ?_
  refine lv_aload_n hx hb d_Mo_frame_2 rfl (lv_at hl 0 rfl) ?_
  refine va_get (C := R_Mo) (T := F_Mo) (N := 44) hx hb hts (fun w h => List.mem_cons_of_mem _ (hin_Mo w h)) hown hK hP 0 rfl rfl 9 (by decide) (hts _ (List.mem_cons_of_mem _ fl_Mo_92)) (fun _ h => h) rfl d_Mo_frame_3 ?_
  refine lv_iconst (v := nI 1) hx hb d_Mo_frame_6 (by decide) ?_
  refine lv_isub hx hb d_Mo_frame_7 ?_
  refine zk_topi (show ((nI wc) - (nI 1)) = nI (wc - 1) from pk_sub (by omega)) ?_
  have hPc := hP.sub (ws' := []) [] rfl
  refine zk_ri (va_runS (As := [.int (nI w), .int (nI 0), .int (nI (wc - 1))]) (rest := []) ⟨hx, hb, hml, hown, hts⟩ (c_Mo_outside l D cI cL cZ cW cR (nI w) (nI 0) (nI (wc - 1))) (cwS 3 hts (zk_gS (fun _ h => List.mem_cons_of_mem _ h) ml_Mo_81 sm_Mo_outside in_Mo co_Mo_outside) rfl rfl rfl ⟨rfl, hd_Mo_outside⟩ ⟨Nat.le_of_ble_eq_true rfl, Nat.le_of_ble_eq_true rfl⟩) (zk_sr hN hK hPc) rfl rfl hl.1 rfl (lv_room (Nat.le_of_ble_eq_true rfl)) d_Mo_frame_8 ⟨Nat.zero_le _, Nat.zero_le _⟩) ?_
  refine zk_ifb_ne (tgt := 51) hx hb d_Mo_frame_11 rfl (fun hq => absurd hq (fun q => absurd (of_decide_eq_true q) (fun z => z.elim (nI_nlt (by omega) (by omega)) (nI_nlt (by omega) (by omega))))) (fun _ => ?_)
  refine lv_iload_n hx hb d_Mo_frame_14 rfl (lv_at hl 3 rfl) ?_
  refine lv_bipush (v := (-10)) hx hb d_Mo_frame_15 (by decide) ?_
  refine lv_bipush (v := nI 9) hx hb d_Mo_frame_17 (by decide) ?_
  have hPc := hP.sub (ws' := []) [] rfl
  refine zk_ri (va_runS (As := [.int lo, .int (-10), .int (nI 9)]) (rest := []) ⟨hx, hb, hml, hown, hts⟩ (c_Mo_outside l D cI cL cZ cW cR lo (-10 : Int32) (nI 9)) (cwS 3 hts (zk_gS (fun _ h => List.mem_cons_of_mem _ h) ml_Mo_81 sm_Mo_outside in_Mo co_Mo_outside) rfl rfl rfl ⟨rfl, hd_Mo_outside⟩ ⟨Nat.le_of_ble_eq_true rfl, Nat.le_of_ble_eq_true rfl⟩) (zk_sr hN hK hPc) rfl rfl hl.1 rfl (lv_room (Nat.le_of_ble_eq_true rfl)) d_Mo_frame_19 ⟨Nat.zero_le _, Nat.zero_le _⟩) ?_
  refine zk_ifb_ne (tgt := 51) hx hb d_Mo_frame_22 rfl (fun hq => absurd hq (fun q => absurd (of_decide_eq_true q) (fun z => z.elim (Int32.not_lt.mpr hlo.1) (Int32.not_lt.mpr hlo.2)))) (fun _ => ?_)
  refine lv_iload hx hb d_Mo_frame_25 (lv_at hl 4 rfl) ?_
  refine lv_bipush (v := (-9)) hx hb d_Mo_frame_27 (by decide) ?_
  refine lv_bipush (v := nI 10) hx hb d_Mo_frame_29 (by decide) ?_
  have hPc := hP.sub (ws' := []) [] rfl
  refine zk_ri (va_runS (As := [.int hi, .int (-9), .int (nI 10)]) (rest := []) ⟨hx, hb, hml, hown, hts⟩ (c_Mo_outside l D cI cL cZ cW cR hi (-9 : Int32) (nI 10)) (cwS 3 hts (zk_gS (fun _ h => List.mem_cons_of_mem _ h) ml_Mo_81 sm_Mo_outside in_Mo co_Mo_outside) rfl rfl rfl ⟨rfl, hd_Mo_outside⟩ ⟨Nat.le_of_ble_eq_true rfl, Nat.le_of_ble_eq_true rfl⟩) (zk_sr hN hK hPc) rfl rfl hl.1 rfl (lv_room (Nat.le_of_ble_eq_true rfl)) d_Mo_frame_31 ⟨Nat.zero_le _, Nat.zero_le _⟩) ?_
  refine zk_ifb_ne (tgt := 51) hx hb d_Mo_frame_34 rfl (fun hq => absurd hq (fun q => absurd (of_decide_eq_true q) (fun z => z.elim (Int32.not_lt.mpr hhi.1) (Int32.not_lt.mpr hhi.2)))) (fun _ => ?_)
  refine lv_iload_n hx hb d_Mo_frame_37 rfl (lv_at hl 2 rfl) ?_
  refine zk_ifb_eq (tgt := 53) hx hb d_Mo_frame_38 rfl (fun _ => ?_) (fun hq => absurd hq (fun q => absurd q (by decide)))
  refine lv_aload_n hx hb d_Mo_frame_53 rfl (lv_at hl 0 rfl) ?_
  refine va_get (C := R_Mo) (T := F_Mo) (N := 44) hx hb hts (fun w h => List.mem_cons_of_mem _ (hin_Mo w h)) hown hK hP 0 rfl rfl 16 (by decide) (hts _ (List.mem_cons_of_mem _ fl_Mo_41)) (fun _ h => h) rfl d_Mo_frame_54 ?_
  refine lv_iload_n hx hb d_Mo_frame_57 rfl (lv_at hl 1 rfl) ?_
  refine lv_iload_n hx hb d_Mo_frame_58 rfl (lv_at hl 2 rfl) ?_
  refine zk_bast hx hb hK hP hD hS 2 2 rfl rfl (by omega) (by omega) d_Mo_frame_59 (fun H locs hP hD hS => ?_)
  have hP : va_P D vwCl [(o, .inr (9, [(ϕ 0), (ϕ 1), (ϕ 2), (ϕ 3), (ϕ 4), (ϕ 5), (ϕ 6), (ϕ 7), (ϕ 8), .int (nI wc), (ϕ 10), (ϕ 11), (ϕ 12), (ϕ 13), .ref a_wOrder, (ϕ 15), .ref a_wRange, .ref a_wLow, .ref a_wHigh, (ϕ 19), (ϕ 20), (ϕ 21), (ϕ 22), (ϕ 23), (ϕ 24), (ϕ 25), (ϕ 26), (ϕ 27), (ϕ 28), (ϕ 29), (ϕ 30), (ϕ 31), (ϕ 32), (ϕ 33), (ϕ 34), (ϕ 35), (ϕ 36), (ϕ 37), (ϕ 38), (ϕ 39), (ϕ 40), (ϕ 41), (ϕ 42), (ϕ 43)])), (a_wOrder, .inl (cI, 3, .inl (zO oo))), (a_wRange, .inl (cZ, 3, .inl (zZ (va_up wg w false)))), (a_wLow, .inl (cI, 3, .inl wl)), (a_wHigh, .inl (cI, 3, .inl wh))] H := hP
  have hD : va_D A [(o, .inr (9, [(ϕ 0), (ϕ 1), (ϕ 2), (ϕ 3), (ϕ 4), (ϕ 5), (ϕ 6), (ϕ 7), (ϕ 8), .int (nI wc), (ϕ 10), (ϕ 11), (ϕ 12), (ϕ 13), .ref a_wOrder, (ϕ 15), .ref a_wRange, .ref a_wLow, .ref a_wHigh, (ϕ 19), (ϕ 20), (ϕ 21), (ϕ 22), (ϕ 23), (ϕ 24), (ϕ 25), (ϕ 26), (ϕ 27), (ϕ 28), (ϕ 29), (ϕ 30), (ϕ 31), (ϕ 32), (ϕ 33), (ϕ 34), (ϕ 35), (ϕ 36), (ϕ 37), (ϕ 38), (ϕ 39), (ϕ 40), (ϕ 41), (ϕ 42), (ϕ 43)])), (a_wOrder, .inl (cI, 3, .inl (zO oo))), (a_wRange, .inl (cZ, 3, .inl (zZ (va_up wg w false)))), (a_wLow, .inl (cI, 3, .inl wl)), (a_wHigh, .inl (cI, 3, .inl wh))] := hD
  refine lv_aload_n hx hb d_Mo_frame_60 rfl (lv_at hl 0 rfl) ?_
  refine va_get (C := R_Mo) (T := F_Mo) (N := 44) hx hb hts (fun w h => List.mem_cons_of_mem _ (hin_Mo w h)) hown hK hP 0 rfl rfl 17 (by decide) (hts _ (List.mem_cons_of_mem _ fl_Mo_44)) (fun _ h => h) rfl d_Mo_frame_61 ?_
  refine lv_iload_n hx hb d_Mo_frame_64 rfl (lv_at hl 1 rfl) ?_
  refine lv_iload_n hx hb d_Mo_frame_65 rfl (lv_at hl 3 rfl) ?_
  refine zk_iast hx hb hK hP hD hS 3 0 rfl rfl (by omega) (by omega) d_Mo_frame_66 (fun H locs hP hD hS => ?_)
  have hP : va_P D vwCl [(o, .inr (9, [(ϕ 0), (ϕ 1), (ϕ 2), (ϕ 3), (ϕ 4), (ϕ 5), (ϕ 6), (ϕ 7), (ϕ 8), .int (nI wc), (ϕ 10), (ϕ 11), (ϕ 12), (ϕ 13), .ref a_wOrder, (ϕ 15), .ref a_wRange, .ref a_wLow, .ref a_wHigh, (ϕ 19), (ϕ 20), (ϕ 21), (ϕ 22), (ϕ 23), (ϕ 24), (ϕ 25), (ϕ 26), (ϕ 27), (ϕ 28), (ϕ 29), (ϕ 30), (ϕ 31), (ϕ 32), (ϕ 33), (ϕ 34), (ϕ 35), (ϕ 36), (ϕ 37), (ϕ 38), (ϕ 39), (ϕ 40), (ϕ 41), (ϕ 42), (ϕ 43)])), (a_wOrder, .inl (cI, 3, .inl (zO oo))), (a_wRange, .inl (cZ, 3, .inl (zZ (va_up wg w false)))), (a_wLow, .inl (cI, 3, .inl (upd wl w lo))), (a_wHigh, .inl (cI, 3, .inl wh))] H := hP
  have hD : va_D A [(o, .inr (9, [(ϕ 0), (ϕ 1), (ϕ 2), (ϕ 3), (ϕ 4), (ϕ 5), (ϕ 6), (ϕ 7), (ϕ 8), .int (nI wc), (ϕ 10), (ϕ 11), (ϕ 12), (ϕ 13), .ref a_wOrder, (ϕ 15), .ref a_wRange, .ref a_wLow, .ref a_wHigh, (ϕ 19), (ϕ 20), (ϕ 21), (ϕ 22), (ϕ 23), (ϕ 24), (ϕ 25), (ϕ 26), (ϕ 27), (ϕ 28), (ϕ 29), (ϕ 30), (ϕ 31), (ϕ 32), (ϕ 33), (ϕ 34), (ϕ 35), (ϕ 36), (ϕ 37), (ϕ 38), (ϕ 39), (ϕ 40), (ϕ 41), (ϕ 42), (ϕ 43)])), (a_wOrder, .inl (cI, 3, .inl (zO oo))), (a_wRange, .inl (cZ, 3, .inl (zZ (va_up wg w false)))), (a_wLow, .inl (cI, 3, .inl (upd wl w lo))), (a_wHigh, .inl (cI, 3, .inl wh))] := hD
  refine lv_aload_n hx hb d_Mo_frame_67 rfl (lv_at hl 0 rfl) ?_
  refine va_get (C := R_Mo) (T := F_Mo) (N := 44) hx hb hts (fun w h => List.mem_cons_of_mem _ (hin_Mo w h)) hown hK hP 0 rfl rfl 18 (by decide) (hts _ (List.mem_cons_of_mem _ fl_Mo_47)) (fun _ h => h) rfl d_Mo_frame_68 ?_
  refine lv_iload_n hx hb d_Mo_frame_71 rfl (lv_at hl 1 rfl) ?_
  refine lv_iload hx hb d_Mo_frame_72 (lv_at hl 4 rfl) ?_
  refine zk_iast hx hb hK hP hD hS 4 0 rfl rfl (by omega) (by omega) d_Mo_frame_74 (fun H locs hP hD hS => ?_)
  have hP : va_P D vwCl [(o, .inr (9, [(ϕ 0), (ϕ 1), (ϕ 2), (ϕ 3), (ϕ 4), (ϕ 5), (ϕ 6), (ϕ 7), (ϕ 8), .int (nI wc), (ϕ 10), (ϕ 11), (ϕ 12), (ϕ 13), .ref a_wOrder, (ϕ 15), .ref a_wRange, .ref a_wLow, .ref a_wHigh, (ϕ 19), (ϕ 20), (ϕ 21), (ϕ 22), (ϕ 23), (ϕ 24), (ϕ 25), (ϕ 26), (ϕ 27), (ϕ 28), (ϕ 29), (ϕ 30), (ϕ 31), (ϕ 32), (ϕ 33), (ϕ 34), (ϕ 35), (ϕ 36), (ϕ 37), (ϕ 38), (ϕ 39), (ϕ 40), (ϕ 41), (ϕ 42), (ϕ 43)])), (a_wOrder, .inl (cI, 3, .inl (zO oo))), (a_wRange, .inl (cZ, 3, .inl (zZ (va_up wg w false)))), (a_wLow, .inl (cI, 3, .inl (upd wl w lo))), (a_wHigh, .inl (cI, 3, .inl (upd wh w hi)))] H := hP
  have hD : va_D A [(o, .inr (9, [(ϕ 0), (ϕ 1), (ϕ 2), (ϕ 3), (ϕ 4), (ϕ 5), (ϕ 6), (ϕ 7), (ϕ 8), .int (nI wc), (ϕ 10), (ϕ 11), (ϕ 12), (ϕ 13), .ref a_wOrder, (ϕ 15), .ref a_wRange, .ref a_wLow, .ref a_wHigh, (ϕ 19), (ϕ 20), (ϕ 21), (ϕ 22), (ϕ 23), (ϕ 24), (ϕ 25), (ϕ 26), (ϕ 27), (ϕ 28), (ϕ 29), (ϕ 30), (ϕ 31), (ϕ 32), (ϕ 33), (ϕ 34), (ϕ 35), (ϕ 36), (ϕ 37), (ϕ 38), (ϕ 39), (ϕ 40), (ϕ 41), (ϕ 42), (ϕ 43)])), (a_wOrder, .inl (cI, 3, .inl (zO oo))), (a_wRange, .inl (cZ, 3, .inl (zZ (va_up wg w false)))), (a_wLow, .inl (cI, 3, .inl (upd wl w lo))), (a_wHigh, .inl (cI, 3, .inl (upd wh w hi)))] := hD
  refine lv_iconst (v := zb true) hx hb d_Mo_frame_75 (by decide) ?_
  exact zk_zretW hx hb hr hlk hAe hQ hK (()) (rfl) hP hD hS d_Mo_frame_76
set_option maxHeartbeats 4000000 in
set_option maxRecDepth 100000 in
theorem c_Mo_frame_t (l : Launch) (D : va_G) (cI cL cZ cW cR : ClassId) (sz : Nat) (o : Nat) (ϕ : Nat → Value) (a_wOrder a_wRange a_wLow a_wHigh : Nat) (wc : Nat) (oo : Nat → Option Nat) (wg : Nat → Bool) (wl : Nat → Int32) (wh : Nat → Int32) (w : Nat) (hw : w < wc) (hwc : wc ≤ 3) (lo hi : Int32) (hlo : (-10 : Int32) ≤ lo ∧ lo ≤ nI 9) (hhi : (-9 : Int32) ≤ hi ∧ hi ≤ nI 10) (oj : Nat) (hoj : oo w = some oj) (hoj2 : oj < 6) : Met l y_Mo_frame ws_Mo_frame rm1_30 (zPw D vwCl (zT cI cL cZ cW cR) [(o, .inr (9, [(ϕ 0), (ϕ 1), (ϕ 2), (ϕ 3), (ϕ 4), (ϕ 5), (ϕ 6), (ϕ 7), (ϕ 8), .int (nI wc), (ϕ 10), (ϕ 11), (ϕ 12), (ϕ 13), .ref a_wOrder, (ϕ 15), .ref a_wRange, .ref a_wLow, .ref a_wHigh, (ϕ 19), (ϕ 20), (ϕ 21), (ϕ 22), (ϕ 23), (ϕ 24), (ϕ 25), (ϕ 26), (ϕ 27), (ϕ 28), (ϕ 29), (ϕ 30), (ϕ 31), (ϕ 32), (ϕ 33), (ϕ 34), (ϕ 35), (ϕ 36), (ϕ 37), (ϕ 38), (ϕ 39), (ϕ 40), (ϕ 41), (ϕ 42), (ϕ 43)])), (a_wOrder, .inl (cI, 3, .inl (zO oo))), (a_wRange, .inl (cZ, 3, .inl (zZ wg))), (a_wLow, .inl (cI, 3, .inl wl)), (a_wHigh, .inl (cI, 3, .inl wh))] sz [.ref o, .int (nI w), .int (zb true), .int lo, .int hi]) (zQi D vwCl (zT cI cL cZ cW cR) [(o, .inr (9, [(ϕ 0), (ϕ 1), (ϕ 2), (ϕ 3), (ϕ 4), (ϕ 5), (ϕ 6), (ϕ 7), (ϕ 8), .int (nI wc), (ϕ 10), (ϕ 11), (ϕ 12), (ϕ 13), .ref a_wOrder, (ϕ 15), .ref a_wRange, .ref a_wLow, .ref a_wHigh, (ϕ 19), (ϕ 20), (ϕ 21), (ϕ 22), (ϕ 23), (ϕ 24), (ϕ 25), (ϕ 26), (ϕ 27), (ϕ 28), (ϕ 29), (ϕ 30), (ϕ 31), (ϕ 32), (ϕ 33), (ϕ 34), (ϕ 35), (ϕ 36), (ϕ 37), (ϕ 38), (ϕ 39), (ϕ 40), (ϕ 41), (ϕ 42), (ϕ 43)])), (a_wOrder, .inl (cI, 3, .inl (zO oo))), (a_wRange, .inl (cZ, 3, .inl (zZ wg))), (a_wLow, .inl (cI, 3, .inl wl)), (a_wHigh, .inl (cI, 3, .inl wh))] sz (fun x (_ : Unit) => x = zb true) (fun _ => [(o, .inr (9, [(ϕ 0), (ϕ 1), (ϕ 2), (ϕ 3), (ϕ 4), (ϕ 5), (ϕ 6), (ϕ 7), (ϕ 8), .int (nI wc), (ϕ 10), (ϕ 11), (ϕ 12), (ϕ 13), .ref a_wOrder, (ϕ 15), .ref a_wRange, .ref a_wLow, .ref a_wHigh, (ϕ 19), (ϕ 20), (ϕ 21), (ϕ 22), (ϕ 23), (ϕ 24), (ϕ 25), (ϕ 26), (ϕ 27), (ϕ 28), (ϕ 29), (ϕ 30), (ϕ 31), (ϕ 32), (ϕ 33), (ϕ 34), (ϕ 35), (ϕ 36), (ϕ 37), (ϕ 38), (ϕ 39), (ϕ 40), (ϕ 41), (ϕ 42), (ϕ 43)])), (a_wOrder, .inl (cI, 3, .inl (zO oo))), (a_wRange, .inl (cZ, 3, .inl (zZ (va_up wg w true)))), (a_wLow, .inl (cI, 3, .inl (upd wl w lo))), (a_wHigh, .inl (cI, 3, .inl (upd wh w hi)))])) 0 0 (va_A [(o, .inr (9, [(ϕ 0), (ϕ 1), (ϕ 2), (ϕ 3), (ϕ 4), (ϕ 5), (ϕ 6), (ϕ 7), (ϕ 8), .int (nI wc), (ϕ 10), (ϕ 11), (ϕ 12), (ϕ 13), .ref a_wOrder, (ϕ 15), .ref a_wRange, .ref a_wLow, .ref a_wHigh, (ϕ 19), (ϕ 20), (ϕ 21), (ϕ 22), (ϕ 23), (ϕ 24), (ϕ 25), (ϕ 26), (ϕ 27), (ϕ 28), (ϕ 29), (ϕ 30), (ϕ 31), (ϕ 32), (ϕ 33), (ϕ 34), (ϕ 35), (ϕ 36), (ϕ 37), (ϕ 38), (ϕ 39), (ϕ 40), (ϕ 41), (ϕ 42), (ϕ 43)])), (a_wOrder, .inl (cI, 3, .inl (zO oo))), (a_wRange, .inl (cZ, 3, .inl (zZ wg))), (a_wLow, .inl (cI, 3, .inl wl)), (a_wHigh, .inl (cI, 3, .inl wh))] sz) := by
  refine zk_enterW (cc := b_Mo_frame) (maxL := 5) (ret := some .boolean) (by decide) rfl (Nat.le_of_ble_eq_true rfl) ?_
  intro p e s m args below meth c ls Q hx hb hml hr hlk hown hts hP hK hN hl hin hsz A hAe hA hD hS hQ
  subst hsz
  have hl : lv_has ls 5 [(0, .ref o), (1, .int (nI w)), (2, .int (zb true)), (3, .int lo), (4, .int hi)] := hl
  refine lv_iload_n hx hb d_Mo_frame_0 rfl (lv_at hl 1 rfl) ?_
  refine lv_iconst (v := nI 0) hx hb d_Mo_frame_1 (by decide) ?_
  refine lv_aload_n hx hb d_Mo_frame_2 rfl (lv_at hl 0 rfl) ?_
  refine va_get (C := R_Mo) (T := F_Mo) (N := 44) hx hb hts (fun w h => List.mem_cons_of_mem _ (hin_Mo w h)) hown hK hP 0 rfl rfl 9 (by decide) (hts _ (List.mem_cons_of_mem _ fl_Mo_92)) (fun _ h => h) rfl d_Mo_frame_3 ?_
  refine lv_iconst (v := nI 1) hx hb d_Mo_frame_6 (by decide) ?_
  refine lv_isub hx hb d_Mo_frame_7 ?_
  refine zk_topi (show ((nI wc) - (nI 1)) = nI (wc - 1) from pk_sub (by omega)) ?_
  have hPc := hP.sub (ws' := []) [] rfl
  refine zk_ri (va_runS (As := [.int (nI w), .int (nI 0), .int (nI (wc - 1))]) (rest := []) ⟨hx, hb, hml, hown, hts⟩ (c_Mo_outside l D cI cL cZ cW cR (nI w) (nI 0) (nI (wc - 1))) (cwS 3 hts (zk_gS (fun _ h => List.mem_cons_of_mem _ h) ml_Mo_81 sm_Mo_outside in_Mo co_Mo_outside) rfl rfl rfl ⟨rfl, hd_Mo_outside⟩ ⟨Nat.le_of_ble_eq_true rfl, Nat.le_of_ble_eq_true rfl⟩) (zk_sr hN hK hPc) rfl rfl hl.1 rfl (lv_room (Nat.le_of_ble_eq_true rfl)) d_Mo_frame_8 ⟨Nat.zero_le _, Nat.zero_le _⟩) ?_
  refine zk_ifb_ne (tgt := 51) hx hb d_Mo_frame_11 rfl (fun hq => absurd hq (fun q => absurd (of_decide_eq_true q) (fun z => z.elim (nI_nlt (by omega) (by omega)) (nI_nlt (by omega) (by omega))))) (fun _ => ?_)
  refine lv_iload_n hx hb d_Mo_frame_14 rfl (lv_at hl 3 rfl) ?_
  refine lv_bipush (v := (-10)) hx hb d_Mo_frame_15 (by decide) ?_
  refine lv_bipush (v := nI 9) hx hb d_Mo_frame_17 (by decide) ?_
  have hPc := hP.sub (ws' := []) [] rfl
  refine zk_ri (va_runS (As := [.int lo, .int (-10), .int (nI 9)]) (rest := []) ⟨hx, hb, hml, hown, hts⟩ (c_Mo_outside l D cI cL cZ cW cR lo (-10 : Int32) (nI 9)) (cwS 3 hts (zk_gS (fun _ h => List.mem_cons_of_mem _ h) ml_Mo_81 sm_Mo_outside in_Mo co_Mo_outside) rfl rfl rfl ⟨rfl, hd_Mo_outside⟩ ⟨Nat.le_of_ble_eq_true rfl, Nat.le_of_ble_eq_true rfl⟩) (zk_sr hN hK hPc) rfl rfl hl.1 rfl (lv_room (Nat.le_of_ble_eq_true rfl)) d_Mo_frame_19 ⟨Nat.zero_le _, Nat.zero_le _⟩) ?_
  refine zk_ifb_ne (tgt := 51) hx hb d_Mo_frame_22 rfl (fun hq => absurd hq (fun q => absurd (of_decide_eq_true q) (fun z => z.elim (Int32.not_lt.mpr hlo.1) (Int32.not_lt.mpr hlo.2)))) (fun _ => ?_)
  refine lv_iload hx hb d_Mo_frame_25 (lv_at hl 4 rfl) ?_
  refine lv_bipush (v := (-9)) hx hb d_Mo_frame_27 (by decide) ?_
  refine lv_bipush (v := nI 10) hx hb d_Mo_frame_29 (by decide) ?_
  have hPc := hP.sub (ws' := []) [] rfl
  refine zk_ri (va_runS (As := [.int hi, .int (-9), .int (nI 10)]) (rest := []) ⟨hx, hb, hml, hown, hts⟩ (c_Mo_outside l D cI cL cZ cW cR hi (-9 : Int32) (nI 10)) (cwS 3 hts (zk_gS (fun _ h => List.mem_cons_of_mem _ h) ml_Mo_81 sm_Mo_outside in_Mo co_Mo_outside) rfl rfl rfl ⟨rfl, hd_Mo_outside⟩ ⟨Nat.le_of_ble_eq_true rfl, Nat.le_of_ble_eq_true rfl⟩) (zk_sr hN hK hPc) rfl rfl hl.1 rfl (lv_room (Nat.le_of_ble_eq_true rfl)) d_Mo_frame_31 ⟨Nat.zero_le _, Nat.zero_le _⟩) ?_
  refine zk_ifb_ne (tgt := 51) hx hb d_Mo_frame_34 rfl (fun hq => absurd hq (fun q => absurd (of_decide_eq_true q) (fun z => z.elim (Int32.not_lt.mpr hhi.1) (Int32.not_lt.mpr hhi.2)))) (fun _ => ?_)
  refine lv_iload_n hx hb d_Mo_frame_37 rfl (lv_at hl 2 rfl) ?_
  refine zk_ifb_eq (tgt := 53) hx hb d_Mo_frame_38 rfl (fun hq => absurd hq (fun q => absurd q (by decide))) (fun _ => ?_)
  refine lv_aload_n hx hb d_Mo_frame_41 rfl (lv_at hl 0 rfl) ?_
  refine va_get (C := R_Mo) (T := F_Mo) (N := 44) hx hb hts (fun w h => List.mem_cons_of_mem _ (hin_Mo w h)) hown hK hP 0 rfl rfl 14 (by decide) (hts _ (List.mem_cons_of_mem _ fl_Mo_34)) (fun _ h => h) rfl d_Mo_frame_42 ?_
  refine lv_iload_n hx hb d_Mo_frame_45 rfl (lv_at hl 1 rfl) ?_
  refine zk_oald hx hb hK hP 1 0 rfl rfl (by omega) (by omega) d_Mo_frame_46 ?_
  refine zk_topi (show (oI (oo w)) = nI oj from by rw [hoj]; rfl) ?_
  refine lv_iconst (v := (-1)) hx hb d_Mo_frame_47 (by decide) ?_
  refine lv_icmp_ne (tgt := 53) hx hb d_Mo_frame_48 rfl (fun _ => ?_) (fun hq => absurd hq (zk_nm1 (by omega)))
  refine lv_aload_n hx hb d_Mo_frame_53 rfl (lv_at hl 0 rfl) ?_
  refine va_get (C := R_Mo) (T := F_Mo) (N := 44) hx hb hts (fun w h => List.mem_cons_of_mem _ (hin_Mo w h)) hown hK hP 0 rfl rfl 16 (by decide) (hts _ (List.mem_cons_of_mem _ fl_Mo_41)) (fun _ h => h) rfl d_Mo_frame_54 ?_
  refine lv_iload_n hx hb d_Mo_frame_57 rfl (lv_at hl 1 rfl) ?_
  refine lv_iload_n hx hb d_Mo_frame_58 rfl (lv_at hl 2 rfl) ?_
  refine zk_bast hx hb hK hP hD hS 2 2 rfl rfl (by omega) (by omega) d_Mo_frame_59 (fun H locs hP hD hS => ?_)
  have hP : va_P D vwCl [(o, .inr (9, [(ϕ 0), (ϕ 1), (ϕ 2), (ϕ 3), (ϕ 4), (ϕ 5), (ϕ 6), (ϕ 7), (ϕ 8), .int (nI wc), (ϕ 10), (ϕ 11), (ϕ 12), (ϕ 13), .ref a_wOrder, (ϕ 15), .ref a_wRange, .ref a_wLow, .ref a_wHigh, (ϕ 19), (ϕ 20), (ϕ 21), (ϕ 22), (ϕ 23), (ϕ 24), (ϕ 25), (ϕ 26), (ϕ 27), (ϕ 28), (ϕ 29), (ϕ 30), (ϕ 31), (ϕ 32), (ϕ 33), (ϕ 34), (ϕ 35), (ϕ 36), (ϕ 37), (ϕ 38), (ϕ 39), (ϕ 40), (ϕ 41), (ϕ 42), (ϕ 43)])), (a_wOrder, .inl (cI, 3, .inl (zO oo))), (a_wRange, .inl (cZ, 3, .inl (zZ (va_up wg w true)))), (a_wLow, .inl (cI, 3, .inl wl)), (a_wHigh, .inl (cI, 3, .inl wh))] H := hP
  have hD : va_D A [(o, .inr (9, [(ϕ 0), (ϕ 1), (ϕ 2), (ϕ 3), (ϕ 4), (ϕ 5), (ϕ 6), (ϕ 7), (ϕ 8), .int (nI wc), (ϕ 10), (ϕ 11), (ϕ 12), (ϕ 13), .ref a_wOrder, (ϕ 15), .ref a_wRange, .ref a_wLow, .ref a_wHigh, (ϕ 19), (ϕ 20), (ϕ 21), (ϕ 22), (ϕ 23), (ϕ 24), (ϕ 25), (ϕ 26), (ϕ 27), (ϕ 28), (ϕ 29), (ϕ 30), (ϕ 31), (ϕ 32), (ϕ 33), (ϕ 34), (ϕ 35), (ϕ 36), (ϕ 37), (ϕ 38), (ϕ 39), (ϕ 40), (ϕ 41), (ϕ 42), (ϕ 43)])), (a_wOrder, .inl (cI, 3, .inl (zO oo))), (a_wRange, .inl (cZ, 3, .inl (zZ (va_up wg w true)))), (a_wLow, .inl (cI, 3, .inl wl)), (a_wHigh, .inl (cI, 3, .inl wh))] := hD
  refine lv_aload_n hx hb d_Mo_frame_60 rfl (lv_at hl 0 rfl) ?_
  refine va_get (C := R_Mo) (T := F_Mo) (N := 44) hx hb hts (fun w h => List.mem_cons_of_mem _ (hin_Mo w h)) hown hK hP 0 rfl rfl 17 (by decide) (hts _ (List.mem_cons_of_mem _ fl_Mo_44)) (fun _ h => h) rfl d_Mo_frame_61 ?_
  refine lv_iload_n hx hb d_Mo_frame_64 rfl (lv_at hl 1 rfl) ?_
  refine lv_iload_n hx hb d_Mo_frame_65 rfl (lv_at hl 3 rfl) ?_
  refine zk_iast hx hb hK hP hD hS 3 0 rfl rfl (by omega) (by omega) d_Mo_frame_66 (fun H locs hP hD hS => ?_)
  have hP : va_P D vwCl [(o, .inr (9, [(ϕ 0), (ϕ 1), (ϕ 2), (ϕ 3), (ϕ 4), (ϕ 5), (ϕ 6), (ϕ 7), (ϕ 8), .int (nI wc), (ϕ 10), (ϕ 11), (ϕ 12), (ϕ 13), .ref a_wOrder, (ϕ 15), .ref a_wRange, .ref a_wLow, .ref a_wHigh, (ϕ 19), (ϕ 20), (ϕ 21), (ϕ 22), (ϕ 23), (ϕ 24), (ϕ 25), (ϕ 26), (ϕ 27), (ϕ 28), (ϕ 29), (ϕ 30), (ϕ 31), (ϕ 32), (ϕ 33), (ϕ 34), (ϕ 35), (ϕ 36), (ϕ 37), (ϕ 38), (ϕ 39), (ϕ 40), (ϕ 41), (ϕ 42), (ϕ 43)])), (a_wOrder, .inl (cI, 3, .inl (zO oo))), (a_wRange, .inl (cZ, 3, .inl (zZ (va_up wg w true)))), (a_wLow, .inl (cI, 3, .inl (upd wl w lo))), (a_wHigh, .inl (cI, 3, .inl wh))] H := hP
  have hD : va_D A [(o, .inr (9, [(ϕ 0), (ϕ 1), (ϕ 2), (ϕ 3), (ϕ 4), (ϕ 5), (ϕ 6), (ϕ 7), (ϕ 8), .int (nI wc), (ϕ 10), (ϕ 11), (ϕ 12), (ϕ 13), .ref a_wOrder, (ϕ 15), .ref a_wRange, .ref a_wLow, .ref a_wHigh, (ϕ 19), (ϕ 20), (ϕ 21), (ϕ 22), (ϕ 23), (ϕ 24), (ϕ 25), (ϕ 26), (ϕ 27), (ϕ 28), (ϕ 29), (ϕ 30), (ϕ 31), (ϕ 32), (ϕ 33), (ϕ 34), (ϕ 35), (ϕ 36), (ϕ 37), (ϕ 38), (ϕ 39), (ϕ 40), (ϕ 41), (ϕ 42), (ϕ 43)])), (a_wOrder, .inl (cI, 3, .inl (zO oo))), (a_wRange, .inl (cZ, 3, .inl (zZ (va_up wg w true)))), (a_wLow, .inl (cI, 3, .inl (upd wl w lo))), (a_wHigh, .inl (cI, 3, .inl wh))] := hD
  refine lv_aload_n hx hb d_Mo_frame_67 rfl (lv_at hl 0 rfl) ?_
  refine va_get (C := R_Mo) (T := F_Mo) (N := 44) hx hb hts (fun w h => List.mem_cons_of_mem _ (hin_Mo w h)) hown hK hP 0 rfl rfl 18 (by decide) (hts _ (List.mem_cons_of_mem _ fl_Mo_47)) (fun _ h => h) rfl d_Mo_frame_68 ?_
  refine lv_iload_n hx hb d_Mo_frame_71 rfl (lv_at hl 1 rfl) ?_
  refine lv_iload hx hb d_Mo_frame_72 (lv_at hl 4 rfl) ?_
  refine zk_iast hx hb hK hP hD hS 4 0 rfl rfl (by omega) (by omega) d_Mo_frame_74 (fun H locs hP hD hS => ?_)
  have hP : va_P D vwCl [(o, .inr (9, [(ϕ 0), (ϕ 1), (ϕ 2), (ϕ 3), (ϕ 4), (ϕ 5), (ϕ 6), (ϕ 7), (ϕ 8), .int (nI wc), (ϕ 10), (ϕ 11), (ϕ 12), (ϕ 13), .ref a_wOrder, (ϕ 15), .ref a_wRange, .ref a_wLow, .ref a_wHigh, (ϕ 19), (ϕ 20), (ϕ 21), (ϕ 22), (ϕ 23), (ϕ 24), (ϕ 25), (ϕ 26), (ϕ 27), (ϕ 28), (ϕ 29), (ϕ 30), (ϕ 31), (ϕ 32), (ϕ 33), (ϕ 34), (ϕ 35), (ϕ 36), (ϕ 37), (ϕ 38), (ϕ 39), (ϕ 40), (ϕ 41), (ϕ 42), (ϕ 43)])), (a_wOrder, .inl (cI, 3, .inl (zO oo))), (a_wRange, .inl (cZ, 3, .inl (zZ (va_up wg w true)))), (a_wLow, .inl (cI, 3, .inl (upd wl w lo))), (a_wHigh, .inl (cI, 3, .inl (upd wh w hi)))] H := hP
  have hD : va_D A [(o, .inr (9, [(ϕ 0), (ϕ 1), (ϕ 2), (ϕ 3), (ϕ 4), (ϕ 5), (ϕ 6), (ϕ 7), (ϕ 8), .int (nI wc), (ϕ 10), (ϕ 11), (ϕ 12), (ϕ 13), .ref a_wOrder, (ϕ 15), .ref a_wRange, .ref a_wLow, .ref a_wHigh, (ϕ 19), (ϕ 20), (ϕ 21), (ϕ 22), (ϕ 23), (ϕ 24), (ϕ 25), (ϕ 26), (ϕ 27), (ϕ 28), (ϕ 29), (ϕ 30), (ϕ 31), (ϕ 32), (ϕ 33), (ϕ 34), (ϕ 35), (ϕ 36), (ϕ 37), (ϕ 38), (ϕ 39), (ϕ 40), (ϕ 41), (ϕ 42), (ϕ 43)])), (a_wOrder, .inl (cI, 3, .inl (zO oo))), (a_wRange, .inl (cZ, 3, .inl (zZ (va_up wg w true)))), (a_wLow, .inl (cI, 3, .inl (upd wl w lo))), (a_wHigh, .inl (cI, 3, .inl (upd wh w hi)))] := hD
  refine lv_iconst (v := zb true) hx hb d_Mo_frame_75 (by decide) ?_
  exact zk_zretW hx hb hr hlk hAe hQ hK (()) (rfl) hP hD hS d_Mo_frame_76
set_option maxHeartbeats 4000000 in
set_option maxRecDepth 100000 in
theorem c_Mo_frame_r (l : Launch) (D : va_G) (cI cL cZ cW cR : ClassId) (o : Nat) (ϕ : Nat → Value) (a_wOrder : Nat) (wc : Nat) (oo : Nat → Option Nat) (w : Nat) (hw : w < wc) (hwc : wc ≤ 3) (lo hi : Int32) (hlo : (-10 : Int32) ≤ lo ∧ lo ≤ nI 9) (hhi : (-9 : Int32) ≤ hi ∧ hi ≤ nI 10) (hoj : oo w = none) : Met l y_Mo_frame ws_Mo_frame rm1_30 (zPr D vwCl (zT cI cL cZ cW cR) [(o, .inr (9, [(ϕ 0), (ϕ 1), (ϕ 2), (ϕ 3), (ϕ 4), (ϕ 5), (ϕ 6), (ϕ 7), (ϕ 8), .int (nI wc), (ϕ 10), (ϕ 11), (ϕ 12), (ϕ 13), .ref a_wOrder, (ϕ 15), (ϕ 16), (ϕ 17), (ϕ 18), (ϕ 19), (ϕ 20), (ϕ 21), (ϕ 22), (ϕ 23), (ϕ 24), (ϕ 25), (ϕ 26), (ϕ 27), (ϕ 28), (ϕ 29), (ϕ 30), (ϕ 31), (ϕ 32), (ϕ 33), (ϕ 34), (ϕ 35), (ϕ 36), (ϕ 37), (ϕ 38), (ϕ 39), (ϕ 40), (ϕ 41), (ϕ 42), (ϕ 43)])), (a_wOrder, .inl (cI, 3, .inl (zO oo)))] [.ref o, .int (nI w), .int (zb true), .int lo, .int hi]) (zSi (zb false)) 0 0 (fun _ => False) := by
  refine zk_enterR (cc := b_Mo_frame) (maxL := 5) (ret := some .boolean) (by decide) rfl (Nat.le_of_ble_eq_true rfl) ?_
  intro p e s m args below meth c ls Q hx hb hml hr hlk hown hts hP hK hN hl hQ
  have hl : lv_has ls 5 [(0, .ref o), (1, .int (nI w)), (2, .int (zb true)), (3, .int lo), (4, .int hi)] := hl
  refine lv_iload_n hx hb d_Mo_frame_0 rfl (lv_at hl 1 rfl) ?_
  refine lv_iconst (v := nI 0) hx hb d_Mo_frame_1 (by decide) ?_
  refine lv_aload_n hx hb d_Mo_frame_2 rfl (lv_at hl 0 rfl) ?_
  refine va_get (C := R_Mo) (T := F_Mo) (N := 44) hx hb hts (fun w h => List.mem_cons_of_mem _ (hin_Mo w h)) hown hK hP 0 rfl rfl 9 (by decide) (hts _ (List.mem_cons_of_mem _ fl_Mo_92)) (fun _ h => h) rfl d_Mo_frame_3 ?_
  refine lv_iconst (v := nI 1) hx hb d_Mo_frame_6 (by decide) ?_
  refine lv_isub hx hb d_Mo_frame_7 ?_
  refine zk_topi (show ((nI wc) - (nI 1)) = nI (wc - 1) from pk_sub (by omega)) ?_
  have hPc := hP.sub (ws' := []) [] rfl
  refine zk_ri (va_runS (As := [.int (nI w), .int (nI 0), .int (nI (wc - 1))]) (rest := []) ⟨hx, hb, hml, hown, hts⟩ (c_Mo_outside l D cI cL cZ cW cR (nI w) (nI 0) (nI (wc - 1))) (cwS 3 hts (zk_gS (fun _ h => List.mem_cons_of_mem _ h) ml_Mo_81 sm_Mo_outside in_Mo co_Mo_outside) rfl rfl rfl ⟨rfl, hd_Mo_outside⟩ ⟨Nat.le_of_ble_eq_true rfl, Nat.le_of_ble_eq_true rfl⟩) (zk_sr hN hK hPc) rfl rfl hl.1 rfl (lv_room (Nat.le_of_ble_eq_true rfl)) d_Mo_frame_8 ⟨Nat.zero_le _, Nat.zero_le _⟩) ?_
  refine zk_ifb_ne (tgt := 51) hx hb d_Mo_frame_11 rfl (fun hq => absurd hq (fun q => absurd (of_decide_eq_true q) (fun z => z.elim (nI_nlt (by omega) (by omega)) (nI_nlt (by omega) (by omega))))) (fun _ => ?_)
  refine lv_iload_n hx hb d_Mo_frame_14 rfl (lv_at hl 3 rfl) ?_
  refine lv_bipush (v := (-10)) hx hb d_Mo_frame_15 (by decide) ?_
  refine lv_bipush (v := nI 9) hx hb d_Mo_frame_17 (by decide) ?_
  have hPc := hP.sub (ws' := []) [] rfl
  refine zk_ri (va_runS (As := [.int lo, .int (-10), .int (nI 9)]) (rest := []) ⟨hx, hb, hml, hown, hts⟩ (c_Mo_outside l D cI cL cZ cW cR lo (-10 : Int32) (nI 9)) (cwS 3 hts (zk_gS (fun _ h => List.mem_cons_of_mem _ h) ml_Mo_81 sm_Mo_outside in_Mo co_Mo_outside) rfl rfl rfl ⟨rfl, hd_Mo_outside⟩ ⟨Nat.le_of_ble_eq_true rfl, Nat.le_of_ble_eq_true rfl⟩) (zk_sr hN hK hPc) rfl rfl hl.1 rfl (lv_room (Nat.le_of_ble_eq_true rfl)) d_Mo_frame_19 ⟨Nat.zero_le _, Nat.zero_le _⟩) ?_
  refine zk_ifb_ne (tgt := 51) hx hb d_Mo_frame_22 rfl (fun hq => absurd hq (fun q => absurd (of_decide_eq_true q) (fun z => z.elim (Int32.not_lt.mpr hlo.1) (Int32.not_lt.mpr hlo.2)))) (fun _ => ?_)
  refine lv_iload hx hb d_Mo_frame_25 (lv_at hl 4 rfl) ?_
  refine lv_bipush (v := (-9)) hx hb d_Mo_frame_27 (by decide) ?_
  refine lv_bipush (v := nI 10) hx hb d_Mo_frame_29 (by decide) ?_
  have hPc := hP.sub (ws' := []) [] rfl
  refine zk_ri (va_runS (As := [.int hi, .int (-9), .int (nI 10)]) (rest := []) ⟨hx, hb, hml, hown, hts⟩ (c_Mo_outside l D cI cL cZ cW cR hi (-9 : Int32) (nI 10)) (cwS 3 hts (zk_gS (fun _ h => List.mem_cons_of_mem _ h) ml_Mo_81 sm_Mo_outside in_Mo co_Mo_outside) rfl rfl rfl ⟨rfl, hd_Mo_outside⟩ ⟨Nat.le_of_ble_eq_true rfl, Nat.le_of_ble_eq_true rfl⟩) (zk_sr hN hK hPc) rfl rfl hl.1 rfl (lv_room (Nat.le_of_ble_eq_true rfl)) d_Mo_frame_31 ⟨Nat.zero_le _, Nat.zero_le _⟩) ?_
  refine zk_ifb_ne (tgt := 51) hx hb d_Mo_frame_34 rfl (fun hq => absurd hq (fun q => absurd (of_decide_eq_true q) (fun z => z.elim (Int32.not_lt.mpr hhi.1) (Int32.not_lt.mpr hhi.2)))) (fun _ => ?_)
  refine lv_iload_n hx hb d_Mo_frame_37 rfl (lv_at hl 2 rfl) ?_
  refine zk_ifb_eq (tgt := 53) hx hb d_Mo_frame_38 rfl (fun hq => absurd hq (fun q => absurd q (by decide))) (fun _ => ?_)
  refine lv_aload_n hx hb d_Mo_frame_41 rfl (lv_at hl 0 rfl) ?_
  refine va_get (C := R_Mo) (T := F_Mo) (N := 44) hx hb hts (fun w h => List.mem_cons_of_mem _ (hin_Mo w h)) hown hK hP 0 rfl rfl 14 (by decide) (hts _ (List.mem_cons_of_mem _ fl_Mo_34)) (fun _ h => h) rfl d_Mo_frame_42 ?_
  refine lv_iload_n hx hb d_Mo_frame_45 rfl (lv_at hl 1 rfl) ?_
  refine zk_oald hx hb hK hP 1 0 rfl rfl (by omega) (by omega) d_Mo_frame_46 ?_
  refine zk_topi (show (oI (oo w)) = (-1) from by rw [hoj]; rfl) ?_
  refine lv_iconst (v := (-1)) hx hb d_Mo_frame_47 (by decide) ?_
  refine lv_icmp_ne (tgt := 53) hx hb d_Mo_frame_48 rfl (fun hq => absurd hq (fun q => q rfl)) (fun _ => ?_)
  refine lv_iconst (v := zb false) hx hb d_Mo_frame_51 (by decide) ?_
  exact zk_zretR hx hb hr hlk hQ (rfl) d_Mo_frame_52
set_option maxHeartbeats 4000000 in
set_option maxRecDepth 100000 in
theorem c_Mo_frame_b (l : Launch) (D : va_G) (cI cL cZ cW cR : ClassId) (o : Nat) (ϕ : Nat → Value) (wc : Nat) (x lo hi : Int32) (d0 : Bool) (hbad : (x < nI 0 ∨ nI wc - nI 1 < x) ∨ (lo < (-10 : Int32) ∨ nI 9 < lo) ∨ (hi < (-9 : Int32) ∨ nI 10 < hi)) : Met l y_Mo_frame ws_Mo_frame rm1_30 (zPr D vwCl (zT cI cL cZ cW cR) [(o, .inr (9, [(ϕ 0), (ϕ 1), (ϕ 2), (ϕ 3), (ϕ 4), (ϕ 5), (ϕ 6), (ϕ 7), (ϕ 8), .int (nI wc), (ϕ 10), (ϕ 11), (ϕ 12), (ϕ 13), (ϕ 14), (ϕ 15), (ϕ 16), (ϕ 17), (ϕ 18), (ϕ 19), (ϕ 20), (ϕ 21), (ϕ 22), (ϕ 23), (ϕ 24), (ϕ 25), (ϕ 26), (ϕ 27), (ϕ 28), (ϕ 29), (ϕ 30), (ϕ 31), (ϕ 32), (ϕ 33), (ϕ 34), (ϕ 35), (ϕ 36), (ϕ 37), (ϕ 38), (ϕ 39), (ϕ 40), (ϕ 41), (ϕ 42), (ϕ 43)]))] [.ref o, .int x, .int (zb d0), .int lo, .int hi]) (zSi (zb false)) 0 0 (fun _ => False) := by
  refine zk_enterR (cc := b_Mo_frame) (maxL := 5) (ret := some .boolean) (by decide) rfl (Nat.le_of_ble_eq_true rfl) ?_
  intro p e s m args below meth c ls Q hx hb hml hr hlk hown hts hP hK hN hl hQ
  have hl : lv_has ls 5 [(0, .ref o), (1, .int x), (2, .int (zb d0)), (3, .int lo), (4, .int hi)] := hl
  refine lv_iload_n hx hb d_Mo_frame_0 rfl (lv_at hl 1 rfl) ?_
  refine lv_iconst (v := nI 0) hx hb d_Mo_frame_1 (by decide) ?_
  refine lv_aload_n hx hb d_Mo_frame_2 rfl (lv_at hl 0 rfl) ?_
  refine va_get (C := R_Mo) (T := F_Mo) (N := 44) hx hb hts (fun w h => List.mem_cons_of_mem _ (hin_Mo w h)) hown hK hP 0 rfl rfl 9 (by decide) (hts _ (List.mem_cons_of_mem _ fl_Mo_92)) (fun _ h => h) rfl d_Mo_frame_3 ?_
  refine lv_iconst (v := nI 1) hx hb d_Mo_frame_6 (by decide) ?_
  refine lv_isub hx hb d_Mo_frame_7 ?_
  have hPc := hP.sub (ws' := []) [] rfl
  refine zk_ri (va_runS (As := [.int x, .int (nI 0), .int ((nI wc) - (nI 1))]) (rest := []) ⟨hx, hb, hml, hown, hts⟩ (c_Mo_outside l D cI cL cZ cW cR x (nI 0) ((nI wc) - (nI 1))) (cwS 3 hts (zk_gS (fun _ h => List.mem_cons_of_mem _ h) ml_Mo_81 sm_Mo_outside in_Mo co_Mo_outside) rfl rfl rfl ⟨rfl, hd_Mo_outside⟩ ⟨Nat.le_of_ble_eq_true rfl, Nat.le_of_ble_eq_true rfl⟩) (zk_sr hN hK hPc) rfl rfl hl.1 rfl (lv_room (Nat.le_of_ble_eq_true rfl)) d_Mo_frame_8 ⟨Nat.zero_le _, Nat.zero_le _⟩) ?_
  refine zk_ifb_ne (tgt := 51) hx hb d_Mo_frame_11 rfl (fun h11 => ?_) (fun h11 => ?_)
  · skip
    refine lv_iconst (v := zb false) hx hb d_Mo_frame_51 (by decide) ?_
    exact zk_zretR hx hb hr hlk hQ (rfl) d_Mo_frame_52
  · skip
    refine lv_iload_n hx hb d_Mo_frame_14 rfl (lv_at hl 3 rfl) ?_
    refine lv_bipush (v := (-10)) hx hb d_Mo_frame_15 (by decide) ?_
    refine lv_bipush (v := nI 9) hx hb d_Mo_frame_17 (by decide) ?_
    have hPc := hP.sub (ws' := []) [] rfl
    refine zk_ri (va_runS (As := [.int lo, .int (-10), .int (nI 9)]) (rest := []) ⟨hx, hb, hml, hown, hts⟩ (c_Mo_outside l D cI cL cZ cW cR lo (-10 : Int32) (nI 9)) (cwS 3 hts (zk_gS (fun _ h => List.mem_cons_of_mem _ h) ml_Mo_81 sm_Mo_outside in_Mo co_Mo_outside) rfl rfl rfl ⟨rfl, hd_Mo_outside⟩ ⟨Nat.le_of_ble_eq_true rfl, Nat.le_of_ble_eq_true rfl⟩) (zk_sr hN hK hPc) rfl rfl hl.1 rfl (lv_room (Nat.le_of_ble_eq_true rfl)) d_Mo_frame_19 ⟨Nat.zero_le _, Nat.zero_le _⟩) ?_
    refine zk_ifb_ne (tgt := 51) hx hb d_Mo_frame_22 rfl (fun h22 => ?_) (fun h22 => ?_)
    · skip
      refine lv_iconst (v := zb false) hx hb d_Mo_frame_51 (by decide) ?_
      exact zk_zretR hx hb hr hlk hQ (rfl) d_Mo_frame_52
    · skip
      refine lv_iload hx hb d_Mo_frame_25 (lv_at hl 4 rfl) ?_
      refine lv_bipush (v := (-9)) hx hb d_Mo_frame_27 (by decide) ?_
      refine lv_bipush (v := nI 10) hx hb d_Mo_frame_29 (by decide) ?_
      have hPc := hP.sub (ws' := []) [] rfl
      refine zk_ri (va_runS (As := [.int hi, .int (-9), .int (nI 10)]) (rest := []) ⟨hx, hb, hml, hown, hts⟩ (c_Mo_outside l D cI cL cZ cW cR hi (-9 : Int32) (nI 10)) (cwS 3 hts (zk_gS (fun _ h => List.mem_cons_of_mem _ h) ml_Mo_81 sm_Mo_outside in_Mo co_Mo_outside) rfl rfl rfl ⟨rfl, hd_Mo_outside⟩ ⟨Nat.le_of_ble_eq_true rfl, Nat.le_of_ble_eq_true rfl⟩) (zk_sr hN hK hPc) rfl rfl hl.1 rfl (lv_room (Nat.le_of_ble_eq_true rfl)) d_Mo_frame_31 ⟨Nat.zero_le _, Nat.zero_le _⟩) ?_
      refine zk_ifb_ne (tgt := 51) hx hb d_Mo_frame_34 rfl (fun _ => ?_) (fun hq => absurd hq (fun q => hbad.elim (of_decide_eq_false h11) (fun z => z.elim (of_decide_eq_false h22) (of_decide_eq_false q))))
      refine lv_iconst (v := zb false) hx hb d_Mo_frame_51 (by decide) ?_
      exact zk_zretR hx hb hr hlk hQ (rfl) d_Mo_frame_52
set_option maxHeartbeats 4000000 in
set_option maxRecDepth 100000 in
theorem c_Mo_there (l : Launch) (D : va_G) (cI cL cZ cW cR : ClassId) (o : Nat) (ϕ : Nat → Value) (sh : Nat) (x y : Int32) (b0 : Bool) (hsh : sh ≤ 60) (hb0 : b0 = true ↔ (∃ i, i < sh ∧ x = nI i) ∧ ∃ j, j < 9 ∧ y = nI j) : Met l y_Mo_there ws_Mo_there rm0_0 (zPr D vwCl (zT cI cL cZ cW cR) [(o, .inr (9, [(ϕ 0), (ϕ 1), (ϕ 2), (ϕ 3), (ϕ 4), (ϕ 5), (ϕ 6), (ϕ 7), (ϕ 8), (ϕ 9), (ϕ 10), (ϕ 11), (ϕ 12), (ϕ 13), (ϕ 14), (ϕ 15), (ϕ 16), (ϕ 17), (ϕ 18), (ϕ 19), (ϕ 20), (ϕ 21), (ϕ 22), (ϕ 23), (ϕ 24), (ϕ 25), (ϕ 26), (ϕ 27), (ϕ 28), (ϕ 29), (ϕ 30), (ϕ 31), (ϕ 32), (ϕ 33), (ϕ 34), (ϕ 35), (ϕ 36), .int (nI sh), (ϕ 38), (ϕ 39), (ϕ 40), (ϕ 41), (ϕ 42), (ϕ 43)]))] [.ref o, .int x, .int y]) (zSi (zb b0)) 0 0 (fun _ => False) := by
  refine zk_enterR (cc := b_Mo_there) (maxL := 3) (ret := some .boolean) (by decide) rfl (Nat.le_of_ble_eq_true rfl) ?_
  intro p e s m args below meth c ls Q hx hb hml hr hlk hown hts hP hK hN hl hQ
  have hl : lv_has ls 3 [(0, .ref o), (1, .int x), (2, .int y)] := hl
  refine lv_iload_n hx hb d_Mo_there_0 rfl (lv_at hl 1 rfl) ?_
  refine lv_if_lt (tgt := 26) hx hb d_Mo_there_1 rfl (fun h1 => ?_) (fun h1 => ?_)
  · skip
    refine lv_iconst (v := nI 0) hx hb d_Mo_there_26 (by decide) ?_
    exact zk_zretR hx hb hr hlk hQ (by first | exact zk_bt (hb0.mpr (th_yes hsh h1 (Int32.not_le.mp h9) h13 (Int32.not_lt.mp h19))) | exact zk_bf (fun q => th_no hsh (hb0.mp q) (fun a b c d => absurd d (Int32.not_le.mpr h19))) | exact zk_bf (fun q => th_no hsh (hb0.mp q) (fun a b c d => c h13)) | exact zk_bf (fun q => th_no hsh (hb0.mp q) (fun a b c d => absurd b (Int32.not_lt.mpr h9))) | exact zk_bf (fun q => th_no hsh (hb0.mp q) (fun a b c d => a h1))) d_Mo_there_27
  · skip
    refine lv_iload_n hx hb d_Mo_there_4 rfl (lv_at hl 1 rfl) ?_
    refine lv_aload_n hx hb d_Mo_there_5 rfl (lv_at hl 0 rfl) ?_
    refine va_get (C := R_Mo) (T := F_Mo) (N := 44) hx hb hts (fun w h => List.mem_cons_of_mem _ (hin_Mo w h)) hown hK hP 0 rfl rfl 37 (by decide) (hts _ (List.mem_cons_of_mem _ fl_Mo_247)) (fun _ h => h) rfl d_Mo_there_6 ?_
    refine lv_icmp_ge (tgt := 26) hx hb d_Mo_there_9 rfl (fun h9 => ?_) (fun h9 => ?_)
    · skip
      refine lv_iconst (v := nI 0) hx hb d_Mo_there_26 (by decide) ?_
      exact zk_zretR hx hb hr hlk hQ (by first | exact zk_bt (hb0.mpr (th_yes hsh h1 (Int32.not_le.mp h9) h13 (Int32.not_lt.mp h19))) | exact zk_bf (fun q => th_no hsh (hb0.mp q) (fun a b c d => absurd d (Int32.not_le.mpr h19))) | exact zk_bf (fun q => th_no hsh (hb0.mp q) (fun a b c d => c h13)) | exact zk_bf (fun q => th_no hsh (hb0.mp q) (fun a b c d => absurd b (Int32.not_lt.mpr h9))) | exact zk_bf (fun q => th_no hsh (hb0.mp q) (fun a b c d => a h1))) d_Mo_there_27
    · skip
      refine lv_iload_n hx hb d_Mo_there_12 rfl (lv_at hl 2 rfl) ?_
      refine lv_if_lt (tgt := 26) hx hb d_Mo_there_13 rfl (fun h13 => ?_) (fun h13 => ?_)
      · skip
        refine lv_iconst (v := nI 0) hx hb d_Mo_there_26 (by decide) ?_
        exact zk_zretR hx hb hr hlk hQ (by first | exact zk_bt (hb0.mpr (th_yes hsh h1 (Int32.not_le.mp h9) h13 (Int32.not_lt.mp h19))) | exact zk_bf (fun q => th_no hsh (hb0.mp q) (fun a b c d => absurd d (Int32.not_le.mpr h19))) | exact zk_bf (fun q => th_no hsh (hb0.mp q) (fun a b c d => c h13)) | exact zk_bf (fun q => th_no hsh (hb0.mp q) (fun a b c d => absurd b (Int32.not_lt.mpr h9))) | exact zk_bf (fun q => th_no hsh (hb0.mp q) (fun a b c d => a h1))) d_Mo_there_27
      · skip
        refine lv_iload_n hx hb d_Mo_there_16 rfl (lv_at hl 2 rfl) ?_
        refine lv_bipush (v := nI 8) hx hb d_Mo_there_17 (by decide) ?_
        refine lv_icmp_gt (tgt := 26) hx hb d_Mo_there_19 rfl (fun h19 => ?_) (fun h19 => ?_)
        · skip
          refine lv_iconst (v := nI 0) hx hb d_Mo_there_26 (by decide) ?_
          exact zk_zretR hx hb hr hlk hQ (by first | exact zk_bt (hb0.mpr (th_yes hsh h1 (Int32.not_le.mp h9) h13 (Int32.not_lt.mp h19))) | exact zk_bf (fun q => th_no hsh (hb0.mp q) (fun a b c d => absurd d (Int32.not_le.mpr h19))) | exact zk_bf (fun q => th_no hsh (hb0.mp q) (fun a b c d => c h13)) | exact zk_bf (fun q => th_no hsh (hb0.mp q) (fun a b c d => absurd b (Int32.not_lt.mpr h9))) | exact zk_bf (fun q => th_no hsh (hb0.mp q) (fun a b c d => a h1))) d_Mo_there_27
        · skip
          refine lv_iconst (v := nI 1) hx hb d_Mo_there_22 (by decide) ?_
          refine lv_goto (tgt := 27) hx hb d_Mo_there_23 rfl ?_
          exact zk_zretR hx hb hr hlk hQ (by first | exact zk_bt (hb0.mpr (th_yes hsh h1 (Int32.not_le.mp h9) h13 (Int32.not_lt.mp h19))) | exact zk_bf (fun q => th_no hsh (hb0.mp q) (fun a b c d => absurd d (Int32.not_le.mpr h19))) | exact zk_bf (fun q => th_no hsh (hb0.mp q) (fun a b c d => c h13)) | exact zk_bf (fun q => th_no hsh (hb0.mp q) (fun a b c d => absurd b (Int32.not_lt.mpr h9))) | exact zk_bf (fun q => th_no hsh (hb0.mp q) (fun a b c d => a h1))) d_Mo_there_27
set_option maxHeartbeats 4000000 in
set_option maxRecDepth 100000 in
theorem c_Mo_cell (l : Launch) (D : va_G) (cI cL cZ cW cR : ClassId) (o : Nat) (ϕ : Nat → Value) (a_value a_hole a_list : Nat) (sh : Nat) (vl : Nat → Int32) (hl_ : Nat → Bool) (li : Nat → Nat) (i j : Nat) (hsh : sh ≤ 60) (hi : i < sh) (hj : j < 9) (hli : ∀ z, z < 60 → li z < 60) : Met l y_Mo_cell ws_Mo_cell rm1_30 (zPr D vwCl (zT cI cL cZ cW cR) [(o, .inr (9, [(ϕ 0), (ϕ 1), (ϕ 2), (ϕ 3), (ϕ 4), (ϕ 5), (ϕ 6), (ϕ 7), (ϕ 8), (ϕ 9), (ϕ 10), (ϕ 11), (ϕ 12), (ϕ 13), (ϕ 14), (ϕ 15), (ϕ 16), (ϕ 17), (ϕ 18), (ϕ 19), (ϕ 20), (ϕ 21), (ϕ 22), (ϕ 23), (ϕ 24), .ref a_value, .ref a_hole, (ϕ 27), (ϕ 28), .ref a_list, (ϕ 30), (ϕ 31), (ϕ 32), (ϕ 33), (ϕ 34), (ϕ 35), (ϕ 36), .int (nI sh), (ϕ 38), (ϕ 39), (ϕ 40), (ϕ 41), (ϕ 42), (ϕ 43)])), (a_value, .inl (cI, 540, .inl vl)), (a_hole, .inl (cZ, 540, .inl (zZ hl_))), (a_list, .inl (cI, 60, .inl (zN li)))] [.ref o, .int (nI i), .int (nI j)]) (zSi (if hl_ (9 * (li i) + j) = true then nI 0 else vl (9 * (li i) + j))) 0 0 (fun _ => False) := by
  refine zk_enterR (cc := b_Mo_cell) (maxL := 3) (ret := some .int) (by decide) rfl (Nat.le_of_ble_eq_true rfl) ?_
  intro p e s m args below meth c ls Q hx hb hml hr hlk hown hts hP hK hN hl hQ
  have hl : lv_has ls 3 [(0, .ref o), (1, .int (nI i)), (2, .int (nI j))] := hl
  refine lv_aload_n hx hb d_Mo_cell_0 rfl (lv_at hl 0 rfl) ?_
  refine lv_iload_n hx hb d_Mo_cell_1 rfl (lv_at hl 1 rfl) ?_
  refine lv_iload_n hx hb d_Mo_cell_2 rfl (lv_at hl 2 rfl) ?_
  have hPc := hP.sub (ws' := [(o, .inr (9, [(ϕ 0), (ϕ 1), (ϕ 2), (ϕ 3), (ϕ 4), (ϕ 5), (ϕ 6), (ϕ 7), (ϕ 8), (ϕ 9), (ϕ 10), (ϕ 11), (ϕ 12), (ϕ 13), (ϕ 14), (ϕ 15), (ϕ 16), (ϕ 17), (ϕ 18), (ϕ 19), (ϕ 20), (ϕ 21), (ϕ 22), (ϕ 23), (ϕ 24), .ref a_value, .ref a_hole, (ϕ 27), (ϕ 28), .ref a_list, (ϕ 30), (ϕ 31), (ϕ 32), (ϕ 33), (ϕ 34), (ϕ 35), (ϕ 36), .int (nI sh), (ϕ 38), (ϕ 39), (ϕ 40), (ϕ 41), (ϕ 42), (ϕ 43)]))]) [0] rfl
  refine zk_ri (va_runV (As := [.int (nI i), .int (nI j)]) (rest := []) ⟨hx, hb, hml, hown, hts⟩ (c_Mo_there l D cI cL cZ cW cR o (vp_V [(ϕ 0), (ϕ 1), (ϕ 2), (ϕ 3), (ϕ 4), (ϕ 5), (ϕ 6), (ϕ 7), (ϕ 8), (ϕ 9), (ϕ 10), (ϕ 11), (ϕ 12), (ϕ 13), (ϕ 14), (ϕ 15), (ϕ 16), (ϕ 17), (ϕ 18), (ϕ 19), (ϕ 20), (ϕ 21), (ϕ 22), (ϕ 23), (ϕ 24), .ref a_value, .ref a_hole, (ϕ 27), (ϕ 28), .ref a_list, (ϕ 30), (ϕ 31), (ϕ 32), (ϕ 33), (ϕ 34), (ϕ 35), (ϕ 36), .int (nI sh), (ϕ 38), (ϕ 39), (ϕ 40), (ϕ 41), (ϕ 42), (ϕ 43)]) sh (nI i) (nI j) true hsh (Iff.intro (fun _ => ⟨⟨i, hi, rfl⟩, ⟨j, hj, rfl⟩⟩) (fun _ => rfl))) (cwV 2 hts (zk_gV (fun _ h => List.mem_cons_of_mem _ h) ml_Mo_262 im_Mo_there se_Mo_there in_Mo co_Mo_there) rfl rfl rfl ⟨rfl, hd_Mo_there⟩ ⟨Nat.le_of_ble_eq_true rfl, Nat.le_of_ble_eq_true rfl⟩) (zk_vr (q0 := 0) hN hK hPc rfl rfl) rfl rfl hl.1 rfl (lv_room (Nat.le_of_ble_eq_true rfl)) d_Mo_cell_3 ⟨Nat.zero_le _, Nat.zero_le _⟩) ?_
  refine zk_ifb_eq (tgt := 47) hx hb d_Mo_cell_6 rfl (fun hq => absurd hq (fun q => absurd q (by decide))) (fun _ => ?_)
  have hl9 := hli i (by omega)
  refine lv_aload_n hx hb d_Mo_cell_9 rfl (lv_at hl 0 rfl) ?_
  refine va_get (C := R_Mo) (T := F_Mo) (N := 44) hx hb hts (fun w h => List.mem_cons_of_mem _ (hin_Mo w h)) hown hK hP 0 rfl rfl 26 (by decide) (hts _ (List.mem_cons_of_mem _ fl_Mo_56)) (fun _ h => h) rfl d_Mo_cell_10 ?_
  refine lv_bipush (v := nI 9) hx hb d_Mo_cell_13 (by decide) ?_
  refine lv_aload_n hx hb d_Mo_cell_15 rfl (lv_at hl 0 rfl) ?_
  refine va_get (C := R_Mo) (T := F_Mo) (N := 44) hx hb hts (fun w h => List.mem_cons_of_mem _ (hin_Mo w h)) hown hK hP 0 rfl rfl 29 (by decide) (hts _ (List.mem_cons_of_mem _ fl_Mo_65)) (fun _ h => h) rfl d_Mo_cell_16 ?_
  refine lv_iload_n hx hb d_Mo_cell_19 rfl (lv_at hl 1 rfl) ?_
  refine zk_nald hx hb hK hP 3 0 rfl rfl (by omega) (by omega) d_Mo_cell_20 ?_
  refine lv_imul hx hb d_Mo_cell_21 ?_
  refine zk_topi (show ((nI 9) * (nI (li i))) = nI (9 * (li i)) from pk_mul 9 (li i)) ?_
  refine lv_iload_n hx hb d_Mo_cell_22 rfl (lv_at hl 2 rfl) ?_
  refine lv_iadd hx hb d_Mo_cell_23 ?_
  refine zk_topi (show ((nI (9 * (li i))) + (nI j)) = nI (9 * (li i) + j) from nI_add (9 * (li i)) j) ?_
  refine zk_bald hx hb hK hP 2 2 rfl rfl (by omega) (by omega) d_Mo_cell_24 ?_
  refine zk_ifb_ne (tgt := 47) hx hb d_Mo_cell_25 rfl (fun h25 => ?_) (fun h25 => ?_)
  · skip
    refine lv_iconst (v := nI 0) hx hb d_Mo_cell_47 (by decide) ?_
    exact zk_iretR hx hb hr hlk hQ (by first | exact (if_pos h25).symm | exact (if_neg (by rw [h25]; exact Bool.false_ne_true)).symm) d_Mo_cell_48
  · skip
    refine lv_aload_n hx hb d_Mo_cell_28 rfl (lv_at hl 0 rfl) ?_
    refine va_get (C := R_Mo) (T := F_Mo) (N := 44) hx hb hts (fun w h => List.mem_cons_of_mem _ (hin_Mo w h)) hown hK hP 0 rfl rfl 25 (by decide) (hts _ (List.mem_cons_of_mem _ fl_Mo_53)) (fun _ h => h) rfl d_Mo_cell_29 ?_
    refine lv_bipush (v := nI 9) hx hb d_Mo_cell_32 (by decide) ?_
    refine lv_aload_n hx hb d_Mo_cell_34 rfl (lv_at hl 0 rfl) ?_
    refine va_get (C := R_Mo) (T := F_Mo) (N := 44) hx hb hts (fun w h => List.mem_cons_of_mem _ (hin_Mo w h)) hown hK hP 0 rfl rfl 29 (by decide) (hts _ (List.mem_cons_of_mem _ fl_Mo_65)) (fun _ h => h) rfl d_Mo_cell_35 ?_
    refine lv_iload_n hx hb d_Mo_cell_38 rfl (lv_at hl 1 rfl) ?_
    refine zk_nald hx hb hK hP 3 0 rfl rfl (by omega) (by omega) d_Mo_cell_39 ?_
    refine lv_imul hx hb d_Mo_cell_40 ?_
    refine zk_topi (show ((nI 9) * (nI (li i))) = nI (9 * (li i)) from pk_mul 9 (li i)) ?_
    refine lv_iload_n hx hb d_Mo_cell_41 rfl (lv_at hl 2 rfl) ?_
    refine lv_iadd hx hb d_Mo_cell_42 ?_
    refine zk_topi (show ((nI (9 * (li i))) + (nI j)) = nI (9 * (li i) + j) from nI_add (9 * (li i)) j) ?_
    refine zk_iald hx hb hK hP 1 0 rfl rfl (by omega) (by omega) d_Mo_cell_43 ?_
    refine lv_goto (tgt := 48) hx hb d_Mo_cell_44 rfl ?_
    exact zk_iretR hx hb hr hlk hQ (by first | exact (if_pos h25).symm | exact (if_neg (by rw [h25]; exact Bool.false_ne_true)).symm) d_Mo_cell_48
set_option maxHeartbeats 4000000 in
set_option maxRecDepth 100000 in
theorem c_Mo_cell_b (l : Launch) (D : va_G) (cI cL cZ cW cR : ClassId) (o : Nat) (ϕ : Nat → Value) (sh : Nat) (x y : Int32) (hsh : sh ≤ 60) (hq : ¬ ((∃ i, i < sh ∧ x = nI i) ∧ ∃ j, j < 9 ∧ y = nI j)) : Met l y_Mo_cell ws_Mo_cell rm1_30 (zPr D vwCl (zT cI cL cZ cW cR) [(o, .inr (9, [(ϕ 0), (ϕ 1), (ϕ 2), (ϕ 3), (ϕ 4), (ϕ 5), (ϕ 6), (ϕ 7), (ϕ 8), (ϕ 9), (ϕ 10), (ϕ 11), (ϕ 12), (ϕ 13), (ϕ 14), (ϕ 15), (ϕ 16), (ϕ 17), (ϕ 18), (ϕ 19), (ϕ 20), (ϕ 21), (ϕ 22), (ϕ 23), (ϕ 24), (ϕ 25), (ϕ 26), (ϕ 27), (ϕ 28), (ϕ 29), (ϕ 30), (ϕ 31), (ϕ 32), (ϕ 33), (ϕ 34), (ϕ 35), (ϕ 36), .int (nI sh), (ϕ 38), (ϕ 39), (ϕ 40), (ϕ 41), (ϕ 42), (ϕ 43)]))] [.ref o, .int x, .int y]) (zSi (nI 0)) 0 0 (fun _ => False) := by
  refine zk_enterR (cc := b_Mo_cell) (maxL := 3) (ret := some .int) (by decide) rfl (Nat.le_of_ble_eq_true rfl) ?_
  intro p e s m args below meth c ls Q hx hb hml hr hlk hown hts hP hK hN hl hQ
  have hl : lv_has ls 3 [(0, .ref o), (1, .int x), (2, .int y)] := hl
  refine lv_aload_n hx hb d_Mo_cell_0 rfl (lv_at hl 0 rfl) ?_
  refine lv_iload_n hx hb d_Mo_cell_1 rfl (lv_at hl 1 rfl) ?_
  refine lv_iload_n hx hb d_Mo_cell_2 rfl (lv_at hl 2 rfl) ?_
  have hPc := hP.sub (ws' := [(o, .inr (9, [(ϕ 0), (ϕ 1), (ϕ 2), (ϕ 3), (ϕ 4), (ϕ 5), (ϕ 6), (ϕ 7), (ϕ 8), (ϕ 9), (ϕ 10), (ϕ 11), (ϕ 12), (ϕ 13), (ϕ 14), (ϕ 15), (ϕ 16), (ϕ 17), (ϕ 18), (ϕ 19), (ϕ 20), (ϕ 21), (ϕ 22), (ϕ 23), (ϕ 24), (ϕ 25), (ϕ 26), (ϕ 27), (ϕ 28), (ϕ 29), (ϕ 30), (ϕ 31), (ϕ 32), (ϕ 33), (ϕ 34), (ϕ 35), (ϕ 36), .int (nI sh), (ϕ 38), (ϕ 39), (ϕ 40), (ϕ 41), (ϕ 42), (ϕ 43)]))]) [0] rfl
  refine zk_ri (va_runV (As := [.int x, .int y]) (rest := []) ⟨hx, hb, hml, hown, hts⟩ (c_Mo_there l D cI cL cZ cW cR o (vp_V [(ϕ 0), (ϕ 1), (ϕ 2), (ϕ 3), (ϕ 4), (ϕ 5), (ϕ 6), (ϕ 7), (ϕ 8), (ϕ 9), (ϕ 10), (ϕ 11), (ϕ 12), (ϕ 13), (ϕ 14), (ϕ 15), (ϕ 16), (ϕ 17), (ϕ 18), (ϕ 19), (ϕ 20), (ϕ 21), (ϕ 22), (ϕ 23), (ϕ 24), (ϕ 25), (ϕ 26), (ϕ 27), (ϕ 28), (ϕ 29), (ϕ 30), (ϕ 31), (ϕ 32), (ϕ 33), (ϕ 34), (ϕ 35), (ϕ 36), .int (nI sh), (ϕ 38), (ϕ 39), (ϕ 40), (ϕ 41), (ϕ 42), (ϕ 43)]) sh x y false hsh (Iff.intro (fun q => absurd q (by decide)) (fun q => absurd q hq))) (cwV 2 hts (zk_gV (fun _ h => List.mem_cons_of_mem _ h) ml_Mo_262 im_Mo_there se_Mo_there in_Mo co_Mo_there) rfl rfl rfl ⟨rfl, hd_Mo_there⟩ ⟨Nat.le_of_ble_eq_true rfl, Nat.le_of_ble_eq_true rfl⟩) (zk_vr (q0 := 0) hN hK hPc rfl rfl) rfl rfl hl.1 rfl (lv_room (Nat.le_of_ble_eq_true rfl)) d_Mo_cell_3 ⟨Nat.zero_le _, Nat.zero_le _⟩) ?_
  refine zk_ifb_eq (tgt := 47) hx hb d_Mo_cell_6 rfl (fun _ => ?_) (fun hq => absurd hq (fun q => absurd q (by decide)))
  refine lv_iconst (v := nI 0) hx hb d_Mo_cell_47 (by decide) ?_
  exact zk_iretR hx hb hr hlk hQ (rfl) d_Mo_cell_48
set_option maxHeartbeats 4000000 in
set_option maxRecDepth 100000 in
theorem c_Mo_isNull (l : Launch) (D : va_G) (cI cL cZ cW cR : ClassId) (o : Nat) (ϕ : Nat → Value) (a_hole a_list : Nat) (sh : Nat) (hl_ : Nat → Bool) (li : Nat → Nat) (i j : Nat) (hsh : sh ≤ 60) (hi : i < sh) (hj : j < 9) (hli : ∀ z, z < 60 → li z < 60) : Met l y_Mo_isNull ws_Mo_isNull rm1_30 (zPr D vwCl (zT cI cL cZ cW cR) [(o, .inr (9, [(ϕ 0), (ϕ 1), (ϕ 2), (ϕ 3), (ϕ 4), (ϕ 5), (ϕ 6), (ϕ 7), (ϕ 8), (ϕ 9), (ϕ 10), (ϕ 11), (ϕ 12), (ϕ 13), (ϕ 14), (ϕ 15), (ϕ 16), (ϕ 17), (ϕ 18), (ϕ 19), (ϕ 20), (ϕ 21), (ϕ 22), (ϕ 23), (ϕ 24), (ϕ 25), .ref a_hole, (ϕ 27), (ϕ 28), .ref a_list, (ϕ 30), (ϕ 31), (ϕ 32), (ϕ 33), (ϕ 34), (ϕ 35), (ϕ 36), .int (nI sh), (ϕ 38), (ϕ 39), (ϕ 40), (ϕ 41), (ϕ 42), (ϕ 43)])), (a_hole, .inl (cZ, 540, .inl (zZ hl_))), (a_list, .inl (cI, 60, .inl (zN li)))] [.ref o, .int (nI i), .int (nI j)]) (zSi (zb (hl_ (9 * (li i) + j)))) 0 0 (fun _ => False) := by
  refine zk_enterR (cc := b_Mo_isNull) (maxL := 3) (ret := some .boolean) (by decide) rfl (Nat.le_of_ble_eq_true rfl) ?_
  intro p e s m args below meth c ls Q hx hb hml hr hlk hown hts hP hK hN hl hQ
  have hl : lv_has ls 3 [(0, .ref o), (1, .int (nI i)), (2, .int (nI j))] := hl
  refine lv_aload_n hx hb d_Mo_isNull_0 rfl (lv_at hl 0 rfl) ?_
  refine lv_iload_n hx hb d_Mo_isNull_1 rfl (lv_at hl 1 rfl) ?_
  refine lv_iload_n hx hb d_Mo_isNull_2 rfl (lv_at hl 2 rfl) ?_
  have hPc := hP.sub (ws' := [(o, .inr (9, [(ϕ 0), (ϕ 1), (ϕ 2), (ϕ 3), (ϕ 4), (ϕ 5), (ϕ 6), (ϕ 7), (ϕ 8), (ϕ 9), (ϕ 10), (ϕ 11), (ϕ 12), (ϕ 13), (ϕ 14), (ϕ 15), (ϕ 16), (ϕ 17), (ϕ 18), (ϕ 19), (ϕ 20), (ϕ 21), (ϕ 22), (ϕ 23), (ϕ 24), (ϕ 25), .ref a_hole, (ϕ 27), (ϕ 28), .ref a_list, (ϕ 30), (ϕ 31), (ϕ 32), (ϕ 33), (ϕ 34), (ϕ 35), (ϕ 36), .int (nI sh), (ϕ 38), (ϕ 39), (ϕ 40), (ϕ 41), (ϕ 42), (ϕ 43)]))]) [0] rfl
  refine zk_ri (va_runV (As := [.int (nI i), .int (nI j)]) (rest := []) ⟨hx, hb, hml, hown, hts⟩ (c_Mo_there l D cI cL cZ cW cR o (vp_V [(ϕ 0), (ϕ 1), (ϕ 2), (ϕ 3), (ϕ 4), (ϕ 5), (ϕ 6), (ϕ 7), (ϕ 8), (ϕ 9), (ϕ 10), (ϕ 11), (ϕ 12), (ϕ 13), (ϕ 14), (ϕ 15), (ϕ 16), (ϕ 17), (ϕ 18), (ϕ 19), (ϕ 20), (ϕ 21), (ϕ 22), (ϕ 23), (ϕ 24), (ϕ 25), .ref a_hole, (ϕ 27), (ϕ 28), .ref a_list, (ϕ 30), (ϕ 31), (ϕ 32), (ϕ 33), (ϕ 34), (ϕ 35), (ϕ 36), .int (nI sh), (ϕ 38), (ϕ 39), (ϕ 40), (ϕ 41), (ϕ 42), (ϕ 43)]) sh (nI i) (nI j) true hsh (Iff.intro (fun _ => ⟨⟨i, hi, rfl⟩, ⟨j, hj, rfl⟩⟩) (fun _ => rfl))) (cwV 2 hts (zk_gV (fun _ h => List.mem_cons_of_mem _ h) ml_Mo_262 im_Mo_there se_Mo_there in_Mo co_Mo_there) rfl rfl rfl ⟨rfl, hd_Mo_there⟩ ⟨Nat.le_of_ble_eq_true rfl, Nat.le_of_ble_eq_true rfl⟩) (zk_vr (q0 := 0) hN hK hPc rfl rfl) rfl rfl hl.1 rfl (lv_room (Nat.le_of_ble_eq_true rfl)) d_Mo_isNull_3 ⟨Nat.zero_le _, Nat.zero_le _⟩) ?_
  refine zk_ifb_eq (tgt := 32) hx hb d_Mo_isNull_6 rfl (fun hq => absurd hq (fun q => absurd q (by decide))) (fun _ => ?_)
  have hl9 := hli i (by omega)
  refine lv_aload_n hx hb d_Mo_isNull_9 rfl (lv_at hl 0 rfl) ?_
  refine va_get (C := R_Mo) (T := F_Mo) (N := 44) hx hb hts (fun w h => List.mem_cons_of_mem _ (hin_Mo w h)) hown hK hP 0 rfl rfl 26 (by decide) (hts _ (List.mem_cons_of_mem _ fl_Mo_56)) (fun _ h => h) rfl d_Mo_isNull_10 ?_
  refine lv_bipush (v := nI 9) hx hb d_Mo_isNull_13 (by decide) ?_
  refine lv_aload_n hx hb d_Mo_isNull_15 rfl (lv_at hl 0 rfl) ?_
  refine va_get (C := R_Mo) (T := F_Mo) (N := 44) hx hb hts (fun w h => List.mem_cons_of_mem _ (hin_Mo w h)) hown hK hP 0 rfl rfl 29 (by decide) (hts _ (List.mem_cons_of_mem _ fl_Mo_65)) (fun _ h => h) rfl d_Mo_isNull_16 ?_
  refine lv_iload_n hx hb d_Mo_isNull_19 rfl (lv_at hl 1 rfl) ?_
  refine zk_nald hx hb hK hP 2 0 rfl rfl (by omega) (by omega) d_Mo_isNull_20 ?_
  refine lv_imul hx hb d_Mo_isNull_21 ?_
  refine zk_topi (show ((nI 9) * (nI (li i))) = nI (9 * (li i)) from pk_mul 9 (li i)) ?_
  refine lv_iload_n hx hb d_Mo_isNull_22 rfl (lv_at hl 2 rfl) ?_
  refine lv_iadd hx hb d_Mo_isNull_23 ?_
  refine zk_topi (show ((nI (9 * (li i))) + (nI j)) = nI (9 * (li i) + j) from nI_add (9 * (li i)) j) ?_
  refine zk_bald hx hb hK hP 1 2 rfl rfl (by omega) (by omega) d_Mo_isNull_24 ?_
  refine zk_ifb_eq (tgt := 32) hx hb d_Mo_isNull_25 rfl (fun h25 => ?_) (fun h25 => ?_)
  · skip
    refine lv_iconst (v := nI 0) hx hb d_Mo_isNull_32 (by decide) ?_
    exact zk_zretR hx hb hr hlk hQ (by rw [h25]; rfl) d_Mo_isNull_33
  · skip
    refine lv_iconst (v := nI 1) hx hb d_Mo_isNull_28 (by decide) ?_
    refine lv_goto (tgt := 33) hx hb d_Mo_isNull_29 rfl ?_
    exact zk_zretR hx hb hr hlk hQ (by rw [h25]; rfl) d_Mo_isNull_33
set_option maxHeartbeats 4000000 in
set_option maxRecDepth 100000 in
theorem c_Mo_isNull_b (l : Launch) (D : va_G) (cI cL cZ cW cR : ClassId) (o : Nat) (ϕ : Nat → Value) (sh : Nat) (x y : Int32) (hsh : sh ≤ 60) (hq : ¬ ((∃ i, i < sh ∧ x = nI i) ∧ ∃ j, j < 9 ∧ y = nI j)) : Met l y_Mo_isNull ws_Mo_isNull rm1_30 (zPr D vwCl (zT cI cL cZ cW cR) [(o, .inr (9, [(ϕ 0), (ϕ 1), (ϕ 2), (ϕ 3), (ϕ 4), (ϕ 5), (ϕ 6), (ϕ 7), (ϕ 8), (ϕ 9), (ϕ 10), (ϕ 11), (ϕ 12), (ϕ 13), (ϕ 14), (ϕ 15), (ϕ 16), (ϕ 17), (ϕ 18), (ϕ 19), (ϕ 20), (ϕ 21), (ϕ 22), (ϕ 23), (ϕ 24), (ϕ 25), (ϕ 26), (ϕ 27), (ϕ 28), (ϕ 29), (ϕ 30), (ϕ 31), (ϕ 32), (ϕ 33), (ϕ 34), (ϕ 35), (ϕ 36), .int (nI sh), (ϕ 38), (ϕ 39), (ϕ 40), (ϕ 41), (ϕ 42), (ϕ 43)]))] [.ref o, .int x, .int y]) (zSi (zb false)) 0 0 (fun _ => False) := by
  refine zk_enterR (cc := b_Mo_isNull) (maxL := 3) (ret := some .boolean) (by decide) rfl (Nat.le_of_ble_eq_true rfl) ?_
  intro p e s m args below meth c ls Q hx hb hml hr hlk hown hts hP hK hN hl hQ
  have hl : lv_has ls 3 [(0, .ref o), (1, .int x), (2, .int y)] := hl
  refine lv_aload_n hx hb d_Mo_isNull_0 rfl (lv_at hl 0 rfl) ?_
  refine lv_iload_n hx hb d_Mo_isNull_1 rfl (lv_at hl 1 rfl) ?_
  refine lv_iload_n hx hb d_Mo_isNull_2 rfl (lv_at hl 2 rfl) ?_
  have hPc := hP.sub (ws' := [(o, .inr (9, [(ϕ 0), (ϕ 1), (ϕ 2), (ϕ 3), (ϕ 4), (ϕ 5), (ϕ 6), (ϕ 7), (ϕ 8), (ϕ 9), (ϕ 10), (ϕ 11), (ϕ 12), (ϕ 13), (ϕ 14), (ϕ 15), (ϕ 16), (ϕ 17), (ϕ 18), (ϕ 19), (ϕ 20), (ϕ 21), (ϕ 22), (ϕ 23), (ϕ 24), (ϕ 25), (ϕ 26), (ϕ 27), (ϕ 28), (ϕ 29), (ϕ 30), (ϕ 31), (ϕ 32), (ϕ 33), (ϕ 34), (ϕ 35), (ϕ 36), .int (nI sh), (ϕ 38), (ϕ 39), (ϕ 40), (ϕ 41), (ϕ 42), (ϕ 43)]))]) [0] rfl
  refine zk_ri (va_runV (As := [.int x, .int y]) (rest := []) ⟨hx, hb, hml, hown, hts⟩ (c_Mo_there l D cI cL cZ cW cR o (vp_V [(ϕ 0), (ϕ 1), (ϕ 2), (ϕ 3), (ϕ 4), (ϕ 5), (ϕ 6), (ϕ 7), (ϕ 8), (ϕ 9), (ϕ 10), (ϕ 11), (ϕ 12), (ϕ 13), (ϕ 14), (ϕ 15), (ϕ 16), (ϕ 17), (ϕ 18), (ϕ 19), (ϕ 20), (ϕ 21), (ϕ 22), (ϕ 23), (ϕ 24), (ϕ 25), (ϕ 26), (ϕ 27), (ϕ 28), (ϕ 29), (ϕ 30), (ϕ 31), (ϕ 32), (ϕ 33), (ϕ 34), (ϕ 35), (ϕ 36), .int (nI sh), (ϕ 38), (ϕ 39), (ϕ 40), (ϕ 41), (ϕ 42), (ϕ 43)]) sh x y false hsh (Iff.intro (fun q => absurd q (by decide)) (fun q => absurd q hq))) (cwV 2 hts (zk_gV (fun _ h => List.mem_cons_of_mem _ h) ml_Mo_262 im_Mo_there se_Mo_there in_Mo co_Mo_there) rfl rfl rfl ⟨rfl, hd_Mo_there⟩ ⟨Nat.le_of_ble_eq_true rfl, Nat.le_of_ble_eq_true rfl⟩) (zk_vr (q0 := 0) hN hK hPc rfl rfl) rfl rfl hl.1 rfl (lv_room (Nat.le_of_ble_eq_true rfl)) d_Mo_isNull_3 ⟨Nat.zero_le _, Nat.zero_le _⟩) ?_
  refine zk_ifb_eq (tgt := 32) hx hb d_Mo_isNull_6 rfl (fun _ => ?_) (fun hq => absurd hq (fun q => absurd q (by decide)))
  refine lv_iconst (v := zb false) hx hb d_Mo_isNull_32 (by decide) ?_
  exact zk_zretR hx hb hr hlk hQ (rfl) d_Mo_isNull_33
set_option maxHeartbeats 4000000 in
set_option maxRecDepth 100000 in
theorem c_Mo_passes_n (l : Launch) (D : va_G) (cI cL cZ cW cR : ClassId) (o : Nat) (ϕ : Nat → Value) (a_test a_given a_holes : Nat) (te : Nat → Int32) (gv : Nat → Int32) (ho : Nat → Int32) (r tc : Nat) (hr0 : r < 24) (htc : tc < 3) (hte0 : te 0 = nI tc) : Met l y_Mo_passes ws_Mo_passes rm1_30 (zPr D vwCl (zT cI cL cZ cW cR) [(o, .inr (9, [(ϕ 0), (ϕ 1), .ref a_given, .ref a_holes, .int (zb false), .ref a_test, (ϕ 6), (ϕ 7), (ϕ 8), (ϕ 9), (ϕ 10), (ϕ 11), (ϕ 12), (ϕ 13), (ϕ 14), (ϕ 15), (ϕ 16), (ϕ 17), (ϕ 18), (ϕ 19), (ϕ 20), (ϕ 21), (ϕ 22), (ϕ 23), (ϕ 24), (ϕ 25), (ϕ 26), (ϕ 27), (ϕ 28), (ϕ 29), (ϕ 30), (ϕ 31), (ϕ 32), (ϕ 33), (ϕ 34), (ϕ 35), (ϕ 36), (ϕ 37), (ϕ 38), (ϕ 39), (ϕ 40), (ϕ 41), (ϕ 42), (ϕ 43)])), (a_test, .inl (cI, 3, .inl te)), (a_given, .inl (cI, 144, .inl gv)), (a_holes, .inl (cI, 48, .inl ho))] [.ref o, .int (nI r)]) (zSi (zb true)) 0 0 (fun _ => False) := by
  refine zk_enterR (cc := b_Mo_passes) (maxL := 4) (ret := some .boolean) (by decide) rfl (Nat.le_of_ble_eq_true rfl) ?_
  intro p e s m args below meth c ls Q hx hb hml hr hlk hown hts hP hK hN hl hQ
  have hl : lv_has ls 4 [(0, .ref o), (1, .int (nI r))] := hl
  refine lv_aload_n hx hb d_Mo_passes_0 rfl (lv_at hl 0 rfl) ?_
  refine va_get (C := R_Mo) (T := F_Mo) (N := 44) hx hb hts (fun w h => List.mem_cons_of_mem _ (hin_Mo w h)) hown hK hP 0 rfl rfl 4 (by decide) (hts _ (List.mem_cons_of_mem _ fl_Mo_85)) (fun _ h => h) rfl d_Mo_passes_1 ?_
  refine zk_ifb_ne (tgt := 9) hx hb d_Mo_passes_4 rfl (fun hq => absurd hq (fun q => absurd q (by decide))) (fun _ => ?_)
  refine lv_iconst (v := zb true) hx hb d_Mo_passes_7 (by decide) ?_
  exact zk_zretR hx hb hr hlk hQ (rfl) d_Mo_passes_8
set_option maxHeartbeats 4000000 in
set_option maxRecDepth 100000 in
theorem c_Mo_passes_0 (l : Launch) (D : va_G) (cI cL cZ cW cR : ClassId) (o : Nat) (ϕ : Nat → Value) (a_test a_given a_holes : Nat) (te : Nat → Int32) (gv : Nat → Int32) (ho : Nat → Int32) (r tc : Nat) (hr0 : r < 24) (htc : tc < 3) (hte0 : te 0 = nI tc) (hte1 : te 1 = nI 0) : Met l y_Mo_passes ws_Mo_passes rm1_30 (zPr D vwCl (zT cI cL cZ cW cR) [(o, .inr (9, [(ϕ 0), (ϕ 1), .ref a_given, .ref a_holes, .int (zb true), .ref a_test, (ϕ 6), (ϕ 7), (ϕ 8), (ϕ 9), (ϕ 10), (ϕ 11), (ϕ 12), (ϕ 13), (ϕ 14), (ϕ 15), (ϕ 16), (ϕ 17), (ϕ 18), (ϕ 19), (ϕ 20), (ϕ 21), (ϕ 22), (ϕ 23), (ϕ 24), (ϕ 25), (ϕ 26), (ϕ 27), (ϕ 28), (ϕ 29), (ϕ 30), (ϕ 31), (ϕ 32), (ϕ 33), (ϕ 34), (ϕ 35), (ϕ 36), (ϕ 37), (ϕ 38), (ϕ 39), (ϕ 40), (ϕ 41), (ϕ 42), (ϕ 43)])), (a_test, .inl (cI, 3, .inl te)), (a_given, .inl (cI, 144, .inl gv)), (a_holes, .inl (cI, 48, .inl ho))] [.ref o, .int (nI r)]) (zSi (zb (pass9 0 (hBit (ho (24 * 0 + r)) tc) (gv (72 * 0 + 3 * r + tc)) (te 2)))) 0 0 (fun _ => False) := by
  refine zk_enterR (cc := b_Mo_passes) (maxL := 4) (ret := some .boolean) (by decide) rfl (Nat.le_of_ble_eq_true rfl) ?_
  intro p e s m args below meth c ls Q hx hb hml hr hlk hown hts hP hK hN hl hQ
  have hl : lv_has ls 4 [(0, .ref o), (1, .int (nI r))] := hl
  refine lv_aload_n hx hb d_Mo_passes_0 rfl (lv_at hl 0 rfl) ?_
  refine va_get (C := R_Mo) (T := F_Mo) (N := 44) hx hb hts (fun w h => List.mem_cons_of_mem _ (hin_Mo w h)) hown hK hP 0 rfl rfl 4 (by decide) (hts _ (List.mem_cons_of_mem _ fl_Mo_85)) (fun _ h => h) rfl d_Mo_passes_1 ?_
  refine zk_ifb_ne (tgt := 9) hx hb d_Mo_passes_4 rfl (fun _ => ?_) (fun hq => absurd hq (fun q => absurd q (by decide)))
  refine lv_aload_n hx hb d_Mo_passes_9 rfl (lv_at hl 0 rfl) ?_
  refine lv_iconst (v := nI 0) hx hb d_Mo_passes_10 (by decide) ?_
  refine lv_iload_n hx hb d_Mo_passes_11 rfl (lv_at hl 1 rfl) ?_
  refine lv_aload_n hx hb d_Mo_passes_12 rfl (lv_at hl 0 rfl) ?_
  refine va_get (C := R_Mo) (T := F_Mo) (N := 44) hx hb hts (fun w h => List.mem_cons_of_mem _ (hin_Mo w h)) hown hK hP 0 rfl rfl 5 (by decide) (hts _ (List.mem_cons_of_mem _ fl_Mo_19)) (fun _ h => h) rfl d_Mo_passes_13 ?_
  refine lv_iconst (v := nI 0) hx hb d_Mo_passes_16 (by decide) ?_
  refine zk_iald hx hb hK hP 1 0 rfl rfl (by omega) (by omega) d_Mo_passes_17 ?_
  refine zk_topi (show (te 0) = nI tc from hte0) ?_
  have hPc := hP.sub (ws' := [(o, .inr (9, [(ϕ 0), (ϕ 1), .ref a_given, .ref a_holes, .int (zb true), .ref a_test, (ϕ 6), (ϕ 7), (ϕ 8), (ϕ 9), (ϕ 10), (ϕ 11), (ϕ 12), (ϕ 13), (ϕ 14), (ϕ 15), (ϕ 16), (ϕ 17), (ϕ 18), (ϕ 19), (ϕ 20), (ϕ 21), (ϕ 22), (ϕ 23), (ϕ 24), (ϕ 25), (ϕ 26), (ϕ 27), (ϕ 28), (ϕ 29), (ϕ 30), (ϕ 31), (ϕ 32), (ϕ 33), (ϕ 34), (ϕ 35), (ϕ 36), (ϕ 37), (ϕ 38), (ϕ 39), (ϕ 40), (ϕ 41), (ϕ 42), (ϕ 43)])), (a_holes, .inl (cI, 48, .inl ho))]) [0, 3] rfl
  refine zk_ri (va_runV (As := [.int (nI 0), .int (nI r), .int (nI tc)]) (rest := []) ⟨hx, hb, hml, hown, hts⟩ (c_Mo_given l D cI cL cZ cW cR o (vp_V [(ϕ 0), (ϕ 1), .ref a_given, .ref a_holes, .int (zb true), .ref a_test, (ϕ 6), (ϕ 7), (ϕ 8), (ϕ 9), (ϕ 10), (ϕ 11), (ϕ 12), (ϕ 13), (ϕ 14), (ϕ 15), (ϕ 16), (ϕ 17), (ϕ 18), (ϕ 19), (ϕ 20), (ϕ 21), (ϕ 22), (ϕ 23), (ϕ 24), (ϕ 25), (ϕ 26), (ϕ 27), (ϕ 28), (ϕ 29), (ϕ 30), (ϕ 31), (ϕ 32), (ϕ 33), (ϕ 34), (ϕ 35), (ϕ 36), (ϕ 37), (ϕ 38), (ϕ 39), (ϕ 40), (ϕ 41), (ϕ 42), (ϕ 43)]) a_holes ho 0 r tc (by decide) hr0 htc) (cwV 3 hts (zk_gV (fun _ h => List.mem_cons_of_mem _ h) ml_Mo_113 im_Mo_given se_Mo_given in_Mo co_Mo_given) rfl rfl rfl ⟨rfl, hd_Mo_given⟩ ⟨Nat.le_of_ble_eq_true rfl, Nat.le_of_ble_eq_true rfl⟩) (zk_vr (q0 := 0) hN hK hPc rfl rfl) rfl rfl hl.1 rfl (lv_room (Nat.le_of_ble_eq_true rfl)) d_Mo_passes_18 ⟨Nat.zero_le _, Nat.zero_le _⟩) ?_
  refine lv_istore_n (lv' := [(2, .int (zb (hBit (ho (24 * 0 + r)) tc))), (0, .ref o), (1, .int (nI r))]) hx hb d_Mo_passes_21 rfl hl (by decide) rfl (fun ls hl => ?_)
  refine lv_aload_n hx hb d_Mo_passes_22 rfl (lv_at hl 1 rfl) ?_
  refine lv_iconst (v := nI 0) hx hb d_Mo_passes_23 (by decide) ?_
  refine lv_iload_n hx hb d_Mo_passes_24 rfl (lv_at hl 2 rfl) ?_
  refine lv_aload_n hx hb d_Mo_passes_25 rfl (lv_at hl 1 rfl) ?_
  refine va_get (C := R_Mo) (T := F_Mo) (N := 44) hx hb hts (fun w h => List.mem_cons_of_mem _ (hin_Mo w h)) hown hK hP 0 rfl rfl 5 (by decide) (hts _ (List.mem_cons_of_mem _ fl_Mo_19)) (fun _ h => h) rfl d_Mo_passes_26 ?_
  refine lv_iconst (v := nI 0) hx hb d_Mo_passes_29 (by decide) ?_
  refine zk_iald hx hb hK hP 1 0 rfl rfl (by omega) (by omega) d_Mo_passes_30 ?_
  refine zk_topi (show (te 0) = nI tc from hte0) ?_
  have hPc := hP.sub (ws' := [(o, .inr (9, [(ϕ 0), (ϕ 1), .ref a_given, .ref a_holes, .int (zb true), .ref a_test, (ϕ 6), (ϕ 7), (ϕ 8), (ϕ 9), (ϕ 10), (ϕ 11), (ϕ 12), (ϕ 13), (ϕ 14), (ϕ 15), (ϕ 16), (ϕ 17), (ϕ 18), (ϕ 19), (ϕ 20), (ϕ 21), (ϕ 22), (ϕ 23), (ϕ 24), (ϕ 25), (ϕ 26), (ϕ 27), (ϕ 28), (ϕ 29), (ϕ 30), (ϕ 31), (ϕ 32), (ϕ 33), (ϕ 34), (ϕ 35), (ϕ 36), (ϕ 37), (ϕ 38), (ϕ 39), (ϕ 40), (ϕ 41), (ϕ 42), (ϕ 43)])), (a_given, .inl (cI, 144, .inl gv))]) [0, 2] rfl
  refine zk_ri (va_runV (As := [.int (nI 0), .int (nI r), .int (nI tc)]) (rest := []) ⟨hx, hb, hml, hown, hts⟩ (c_Mo_givenValue l D cI cL cZ cW cR o (vp_V [(ϕ 0), (ϕ 1), .ref a_given, .ref a_holes, .int (zb true), .ref a_test, (ϕ 6), (ϕ 7), (ϕ 8), (ϕ 9), (ϕ 10), (ϕ 11), (ϕ 12), (ϕ 13), (ϕ 14), (ϕ 15), (ϕ 16), (ϕ 17), (ϕ 18), (ϕ 19), (ϕ 20), (ϕ 21), (ϕ 22), (ϕ 23), (ϕ 24), (ϕ 25), (ϕ 26), (ϕ 27), (ϕ 28), (ϕ 29), (ϕ 30), (ϕ 31), (ϕ 32), (ϕ 33), (ϕ 34), (ϕ 35), (ϕ 36), (ϕ 37), (ϕ 38), (ϕ 39), (ϕ 40), (ϕ 41), (ϕ 42), (ϕ 43)]) a_given gv 0 r tc (by decide) hr0 htc) (cwV 3 hts (zk_gV (fun _ h => List.mem_cons_of_mem _ h) ml_Mo_115 im_Mo_givenValue se_Mo_givenValue in_Mo co_Mo_givenValue) rfl rfl rfl ⟨rfl, hd_Mo_givenValue⟩ ⟨Nat.le_of_ble_eq_true rfl, Nat.le_of_ble_eq_true rfl⟩) (zk_vr (q0 := 0) hN hK hPc rfl rfl) rfl rfl hl.1 rfl (lv_room (Nat.le_of_ble_eq_true rfl)) d_Mo_passes_31 ⟨Nat.zero_le _, Nat.zero_le _⟩) ?_
  refine lv_istore_n (lv' := [(3, .int (gv (72 * 0 + 3 * r + tc))), (2, .int (zb (hBit (ho (24 * 0 + r)) tc))), (0, .ref o), (1, .int (nI r))]) hx hb d_Mo_passes_34 rfl hl (by decide) rfl (fun ls hl => ?_)
  refine lv_aload_n hx hb d_Mo_passes_35 rfl (lv_at hl 2 rfl) ?_
  refine va_get (C := R_Mo) (T := F_Mo) (N := 44) hx hb hts (fun w h => List.mem_cons_of_mem _ (hin_Mo w h)) hown hK hP 0 rfl rfl 5 (by decide) (hts _ (List.mem_cons_of_mem _ fl_Mo_19)) (fun _ h => h) rfl d_Mo_passes_36 ?_
  refine lv_iconst (v := nI 1) hx hb d_Mo_passes_39 (by decide) ?_
  refine zk_iald hx hb hK hP 1 0 rfl rfl (by omega) (by omega) d_Mo_passes_40 ?_
  refine zk_topi (show (te 1) = nI 0 from hte1) ?_
  refine lv_tableIn (tgt := 72) (off := 31) hx hb d_Mo_passes_41 (by decide) (by decide) (by decide) rfl ?_
  refine lv_iload_n hx hb d_Mo_passes_72 rfl (lv_at hl 1 rfl) ?_
  refine zk_ifb_eq (tgt := 90) hx hb d_Mo_passes_73 rfl (fun h73 => ?_) (fun h73 => ?_)
  · skip
    refine lv_iconst (v := nI 0) hx hb d_Mo_passes_90 (by decide) ?_
    exact zk_zretR hx hb hr hlk hQ (by rw [h73]; first | exact zk_t (Int32.not_le.mp h83) | exact zk_f (Int32.not_lt.mpr h83) | rfl) d_Mo_passes_91
  · skip
    refine lv_iload_n hx hb d_Mo_passes_76 rfl (lv_at hl 0 rfl) ?_
    refine lv_aload_n hx hb d_Mo_passes_77 rfl (lv_at hl 2 rfl) ?_
    refine va_get (C := R_Mo) (T := F_Mo) (N := 44) hx hb hts (fun w h => List.mem_cons_of_mem _ (hin_Mo w h)) hown hK hP 0 rfl rfl 5 (by decide) (hts _ (List.mem_cons_of_mem _ fl_Mo_19)) (fun _ h => h) rfl d_Mo_passes_78 ?_
    refine lv_iconst (v := nI 2) hx hb d_Mo_passes_81 (by decide) ?_
    refine zk_iald hx hb hK hP 1 0 rfl rfl (by omega) (by omega) d_Mo_passes_82 ?_
    refine lv_icmp_ge (tgt := 90) hx hb d_Mo_passes_83 rfl (fun h83 => ?_) (fun h83 => ?_)
    · skip
      refine lv_iconst (v := nI 0) hx hb d_Mo_passes_90 (by decide) ?_
      exact zk_zretR hx hb hr hlk hQ (by rw [h73]; first | exact zk_t (Int32.not_le.mp h83) | exact zk_f (Int32.not_lt.mpr h83) | rfl) d_Mo_passes_91
    · skip
      refine lv_iconst (v := nI 1) hx hb d_Mo_passes_86 (by decide) ?_
      refine lv_goto (tgt := 91) hx hb d_Mo_passes_87 rfl ?_
      exact zk_zretR hx hb hr hlk hQ (by rw [h73]; first | exact zk_t (Int32.not_le.mp h83) | exact zk_f (Int32.not_lt.mpr h83) | rfl) d_Mo_passes_91
set_option maxHeartbeats 4000000 in
set_option maxRecDepth 100000 in
theorem c_Mo_passes_1 (l : Launch) (D : va_G) (cI cL cZ cW cR : ClassId) (o : Nat) (ϕ : Nat → Value) (a_test a_given a_holes : Nat) (te : Nat → Int32) (gv : Nat → Int32) (ho : Nat → Int32) (r tc : Nat) (hr0 : r < 24) (htc : tc < 3) (hte0 : te 0 = nI tc) (hte1 : te 1 = nI 1) : Met l y_Mo_passes ws_Mo_passes rm1_30 (zPr D vwCl (zT cI cL cZ cW cR) [(o, .inr (9, [(ϕ 0), (ϕ 1), .ref a_given, .ref a_holes, .int (zb true), .ref a_test, (ϕ 6), (ϕ 7), (ϕ 8), (ϕ 9), (ϕ 10), (ϕ 11), (ϕ 12), (ϕ 13), (ϕ 14), (ϕ 15), (ϕ 16), (ϕ 17), (ϕ 18), (ϕ 19), (ϕ 20), (ϕ 21), (ϕ 22), (ϕ 23), (ϕ 24), (ϕ 25), (ϕ 26), (ϕ 27), (ϕ 28), (ϕ 29), (ϕ 30), (ϕ 31), (ϕ 32), (ϕ 33), (ϕ 34), (ϕ 35), (ϕ 36), (ϕ 37), (ϕ 38), (ϕ 39), (ϕ 40), (ϕ 41), (ϕ 42), (ϕ 43)])), (a_test, .inl (cI, 3, .inl te)), (a_given, .inl (cI, 144, .inl gv)), (a_holes, .inl (cI, 48, .inl ho))] [.ref o, .int (nI r)]) (zSi (zb (pass9 1 (hBit (ho (24 * 0 + r)) tc) (gv (72 * 0 + 3 * r + tc)) (te 2)))) 0 0 (fun _ => False) := by
  refine zk_enterR (cc := b_Mo_passes) (maxL := 4) (ret := some .boolean) (by decide) rfl (Nat.le_of_ble_eq_true rfl) ?_
  intro p e s m args below meth c ls Q hx hb hml hr hlk hown hts hP hK hN hl hQ
  have hl : lv_has ls 4 [(0, .ref o), (1, .int (nI r))] := hl
  refine lv_aload_n hx hb d_Mo_passes_0 rfl (lv_at hl 0 rfl) ?_
  refine va_get (C := R_Mo) (T := F_Mo) (N := 44) hx hb hts (fun w h => List.mem_cons_of_mem _ (hin_Mo w h)) hown hK hP 0 rfl rfl 4 (by decide) (hts _ (List.mem_cons_of_mem _ fl_Mo_85)) (fun _ h => h) rfl d_Mo_passes_1 ?_
  refine zk_ifb_ne (tgt := 9) hx hb d_Mo_passes_4 rfl (fun _ => ?_) (fun hq => absurd hq (fun q => absurd q (by decide)))
  refine lv_aload_n hx hb d_Mo_passes_9 rfl (lv_at hl 0 rfl) ?_
  refine lv_iconst (v := nI 0) hx hb d_Mo_passes_10 (by decide) ?_
  refine lv_iload_n hx hb d_Mo_passes_11 rfl (lv_at hl 1 rfl) ?_
  refine lv_aload_n hx hb d_Mo_passes_12 rfl (lv_at hl 0 rfl) ?_
  refine va_get (C := R_Mo) (T := F_Mo) (N := 44) hx hb hts (fun w h => List.mem_cons_of_mem _ (hin_Mo w h)) hown hK hP 0 rfl rfl 5 (by decide) (hts _ (List.mem_cons_of_mem _ fl_Mo_19)) (fun _ h => h) rfl d_Mo_passes_13 ?_
  refine lv_iconst (v := nI 0) hx hb d_Mo_passes_16 (by decide) ?_
  refine zk_iald hx hb hK hP 1 0 rfl rfl (by omega) (by omega) d_Mo_passes_17 ?_
  refine zk_topi (show (te 0) = nI tc from hte0) ?_
  have hPc := hP.sub (ws' := [(o, .inr (9, [(ϕ 0), (ϕ 1), .ref a_given, .ref a_holes, .int (zb true), .ref a_test, (ϕ 6), (ϕ 7), (ϕ 8), (ϕ 9), (ϕ 10), (ϕ 11), (ϕ 12), (ϕ 13), (ϕ 14), (ϕ 15), (ϕ 16), (ϕ 17), (ϕ 18), (ϕ 19), (ϕ 20), (ϕ 21), (ϕ 22), (ϕ 23), (ϕ 24), (ϕ 25), (ϕ 26), (ϕ 27), (ϕ 28), (ϕ 29), (ϕ 30), (ϕ 31), (ϕ 32), (ϕ 33), (ϕ 34), (ϕ 35), (ϕ 36), (ϕ 37), (ϕ 38), (ϕ 39), (ϕ 40), (ϕ 41), (ϕ 42), (ϕ 43)])), (a_holes, .inl (cI, 48, .inl ho))]) [0, 3] rfl
  refine zk_ri (va_runV (As := [.int (nI 0), .int (nI r), .int (nI tc)]) (rest := []) ⟨hx, hb, hml, hown, hts⟩ (c_Mo_given l D cI cL cZ cW cR o (vp_V [(ϕ 0), (ϕ 1), .ref a_given, .ref a_holes, .int (zb true), .ref a_test, (ϕ 6), (ϕ 7), (ϕ 8), (ϕ 9), (ϕ 10), (ϕ 11), (ϕ 12), (ϕ 13), (ϕ 14), (ϕ 15), (ϕ 16), (ϕ 17), (ϕ 18), (ϕ 19), (ϕ 20), (ϕ 21), (ϕ 22), (ϕ 23), (ϕ 24), (ϕ 25), (ϕ 26), (ϕ 27), (ϕ 28), (ϕ 29), (ϕ 30), (ϕ 31), (ϕ 32), (ϕ 33), (ϕ 34), (ϕ 35), (ϕ 36), (ϕ 37), (ϕ 38), (ϕ 39), (ϕ 40), (ϕ 41), (ϕ 42), (ϕ 43)]) a_holes ho 0 r tc (by decide) hr0 htc) (cwV 3 hts (zk_gV (fun _ h => List.mem_cons_of_mem _ h) ml_Mo_113 im_Mo_given se_Mo_given in_Mo co_Mo_given) rfl rfl rfl ⟨rfl, hd_Mo_given⟩ ⟨Nat.le_of_ble_eq_true rfl, Nat.le_of_ble_eq_true rfl⟩) (zk_vr (q0 := 0) hN hK hPc rfl rfl) rfl rfl hl.1 rfl (lv_room (Nat.le_of_ble_eq_true rfl)) d_Mo_passes_18 ⟨Nat.zero_le _, Nat.zero_le _⟩) ?_
  refine lv_istore_n (lv' := [(2, .int (zb (hBit (ho (24 * 0 + r)) tc))), (0, .ref o), (1, .int (nI r))]) hx hb d_Mo_passes_21 rfl hl (by decide) rfl (fun ls hl => ?_)
  refine lv_aload_n hx hb d_Mo_passes_22 rfl (lv_at hl 1 rfl) ?_
  refine lv_iconst (v := nI 0) hx hb d_Mo_passes_23 (by decide) ?_
  refine lv_iload_n hx hb d_Mo_passes_24 rfl (lv_at hl 2 rfl) ?_
  refine lv_aload_n hx hb d_Mo_passes_25 rfl (lv_at hl 1 rfl) ?_
  refine va_get (C := R_Mo) (T := F_Mo) (N := 44) hx hb hts (fun w h => List.mem_cons_of_mem _ (hin_Mo w h)) hown hK hP 0 rfl rfl 5 (by decide) (hts _ (List.mem_cons_of_mem _ fl_Mo_19)) (fun _ h => h) rfl d_Mo_passes_26 ?_
  refine lv_iconst (v := nI 0) hx hb d_Mo_passes_29 (by decide) ?_
  refine zk_iald hx hb hK hP 1 0 rfl rfl (by omega) (by omega) d_Mo_passes_30 ?_
  refine zk_topi (show (te 0) = nI tc from hte0) ?_
  have hPc := hP.sub (ws' := [(o, .inr (9, [(ϕ 0), (ϕ 1), .ref a_given, .ref a_holes, .int (zb true), .ref a_test, (ϕ 6), (ϕ 7), (ϕ 8), (ϕ 9), (ϕ 10), (ϕ 11), (ϕ 12), (ϕ 13), (ϕ 14), (ϕ 15), (ϕ 16), (ϕ 17), (ϕ 18), (ϕ 19), (ϕ 20), (ϕ 21), (ϕ 22), (ϕ 23), (ϕ 24), (ϕ 25), (ϕ 26), (ϕ 27), (ϕ 28), (ϕ 29), (ϕ 30), (ϕ 31), (ϕ 32), (ϕ 33), (ϕ 34), (ϕ 35), (ϕ 36), (ϕ 37), (ϕ 38), (ϕ 39), (ϕ 40), (ϕ 41), (ϕ 42), (ϕ 43)])), (a_given, .inl (cI, 144, .inl gv))]) [0, 2] rfl
  refine zk_ri (va_runV (As := [.int (nI 0), .int (nI r), .int (nI tc)]) (rest := []) ⟨hx, hb, hml, hown, hts⟩ (c_Mo_givenValue l D cI cL cZ cW cR o (vp_V [(ϕ 0), (ϕ 1), .ref a_given, .ref a_holes, .int (zb true), .ref a_test, (ϕ 6), (ϕ 7), (ϕ 8), (ϕ 9), (ϕ 10), (ϕ 11), (ϕ 12), (ϕ 13), (ϕ 14), (ϕ 15), (ϕ 16), (ϕ 17), (ϕ 18), (ϕ 19), (ϕ 20), (ϕ 21), (ϕ 22), (ϕ 23), (ϕ 24), (ϕ 25), (ϕ 26), (ϕ 27), (ϕ 28), (ϕ 29), (ϕ 30), (ϕ 31), (ϕ 32), (ϕ 33), (ϕ 34), (ϕ 35), (ϕ 36), (ϕ 37), (ϕ 38), (ϕ 39), (ϕ 40), (ϕ 41), (ϕ 42), (ϕ 43)]) a_given gv 0 r tc (by decide) hr0 htc) (cwV 3 hts (zk_gV (fun _ h => List.mem_cons_of_mem _ h) ml_Mo_115 im_Mo_givenValue se_Mo_givenValue in_Mo co_Mo_givenValue) rfl rfl rfl ⟨rfl, hd_Mo_givenValue⟩ ⟨Nat.le_of_ble_eq_true rfl, Nat.le_of_ble_eq_true rfl⟩) (zk_vr (q0 := 0) hN hK hPc rfl rfl) rfl rfl hl.1 rfl (lv_room (Nat.le_of_ble_eq_true rfl)) d_Mo_passes_31 ⟨Nat.zero_le _, Nat.zero_le _⟩) ?_
  refine lv_istore_n (lv' := [(3, .int (gv (72 * 0 + 3 * r + tc))), (2, .int (zb (hBit (ho (24 * 0 + r)) tc))), (0, .ref o), (1, .int (nI r))]) hx hb d_Mo_passes_34 rfl hl (by decide) rfl (fun ls hl => ?_)
  refine lv_aload_n hx hb d_Mo_passes_35 rfl (lv_at hl 2 rfl) ?_
  refine va_get (C := R_Mo) (T := F_Mo) (N := 44) hx hb hts (fun w h => List.mem_cons_of_mem _ (hin_Mo w h)) hown hK hP 0 rfl rfl 5 (by decide) (hts _ (List.mem_cons_of_mem _ fl_Mo_19)) (fun _ h => h) rfl d_Mo_passes_36 ?_
  refine lv_iconst (v := nI 1) hx hb d_Mo_passes_39 (by decide) ?_
  refine zk_iald hx hb hK hP 1 0 rfl rfl (by omega) (by omega) d_Mo_passes_40 ?_
  refine zk_topi (show (te 1) = nI 1 from hte1) ?_
  refine lv_tableIn (tgt := 92) (off := 51) hx hb d_Mo_passes_41 (by decide) (by decide) (by decide) rfl ?_
  refine lv_iload_n hx hb d_Mo_passes_92 rfl (lv_at hl 1 rfl) ?_
  refine zk_ifb_eq (tgt := 110) hx hb d_Mo_passes_93 rfl (fun h93 => ?_) (fun h93 => ?_)
  · skip
    refine lv_iconst (v := nI 0) hx hb d_Mo_passes_110 (by decide) ?_
    exact zk_zretR hx hb hr hlk hQ (by rw [h93]; first | exact zk_t h103 | exact zk_f h103 | rfl) d_Mo_passes_111
  · skip
    refine lv_iload_n hx hb d_Mo_passes_96 rfl (lv_at hl 0 rfl) ?_
    refine lv_aload_n hx hb d_Mo_passes_97 rfl (lv_at hl 2 rfl) ?_
    refine va_get (C := R_Mo) (T := F_Mo) (N := 44) hx hb hts (fun w h => List.mem_cons_of_mem _ (hin_Mo w h)) hown hK hP 0 rfl rfl 5 (by decide) (hts _ (List.mem_cons_of_mem _ fl_Mo_19)) (fun _ h => h) rfl d_Mo_passes_98 ?_
    refine lv_iconst (v := nI 2) hx hb d_Mo_passes_101 (by decide) ?_
    refine zk_iald hx hb hK hP 1 0 rfl rfl (by omega) (by omega) d_Mo_passes_102 ?_
    refine lv_icmp_ne (tgt := 110) hx hb d_Mo_passes_103 rfl (fun h103 => ?_) (fun h103 => ?_)
    · skip
      refine lv_iconst (v := nI 0) hx hb d_Mo_passes_110 (by decide) ?_
      exact zk_zretR hx hb hr hlk hQ (by rw [h93]; first | exact zk_t h103 | exact zk_f h103 | rfl) d_Mo_passes_111
    · skip
      refine lv_iconst (v := nI 1) hx hb d_Mo_passes_106 (by decide) ?_
      refine lv_goto (tgt := 111) hx hb d_Mo_passes_107 rfl ?_
      exact zk_zretR hx hb hr hlk hQ (by rw [h93]; first | exact zk_t h103 | exact zk_f h103 | rfl) d_Mo_passes_111
set_option maxHeartbeats 4000000 in
set_option maxRecDepth 100000 in
theorem c_Mo_passes_2 (l : Launch) (D : va_G) (cI cL cZ cW cR : ClassId) (o : Nat) (ϕ : Nat → Value) (a_test a_given a_holes : Nat) (te : Nat → Int32) (gv : Nat → Int32) (ho : Nat → Int32) (r tc : Nat) (hr0 : r < 24) (htc : tc < 3) (hte0 : te 0 = nI tc) (hte1 : te 1 = nI 2) : Met l y_Mo_passes ws_Mo_passes rm1_30 (zPr D vwCl (zT cI cL cZ cW cR) [(o, .inr (9, [(ϕ 0), (ϕ 1), .ref a_given, .ref a_holes, .int (zb true), .ref a_test, (ϕ 6), (ϕ 7), (ϕ 8), (ϕ 9), (ϕ 10), (ϕ 11), (ϕ 12), (ϕ 13), (ϕ 14), (ϕ 15), (ϕ 16), (ϕ 17), (ϕ 18), (ϕ 19), (ϕ 20), (ϕ 21), (ϕ 22), (ϕ 23), (ϕ 24), (ϕ 25), (ϕ 26), (ϕ 27), (ϕ 28), (ϕ 29), (ϕ 30), (ϕ 31), (ϕ 32), (ϕ 33), (ϕ 34), (ϕ 35), (ϕ 36), (ϕ 37), (ϕ 38), (ϕ 39), (ϕ 40), (ϕ 41), (ϕ 42), (ϕ 43)])), (a_test, .inl (cI, 3, .inl te)), (a_given, .inl (cI, 144, .inl gv)), (a_holes, .inl (cI, 48, .inl ho))] [.ref o, .int (nI r)]) (zSi (zb (pass9 2 (hBit (ho (24 * 0 + r)) tc) (gv (72 * 0 + 3 * r + tc)) (te 2)))) 0 0 (fun _ => False) := by
  refine zk_enterR (cc := b_Mo_passes) (maxL := 4) (ret := some .boolean) (by decide) rfl (Nat.le_of_ble_eq_true rfl) ?_
  intro p e s m args below meth c ls Q hx hb hml hr hlk hown hts hP hK hN hl hQ
  have hl : lv_has ls 4 [(0, .ref o), (1, .int (nI r))] := hl
  refine lv_aload_n hx hb d_Mo_passes_0 rfl (lv_at hl 0 rfl) ?_
  refine va_get (C := R_Mo) (T := F_Mo) (N := 44) hx hb hts (fun w h => List.mem_cons_of_mem _ (hin_Mo w h)) hown hK hP 0 rfl rfl 4 (by decide) (hts _ (List.mem_cons_of_mem _ fl_Mo_85)) (fun _ h => h) rfl d_Mo_passes_1 ?_
  refine zk_ifb_ne (tgt := 9) hx hb d_Mo_passes_4 rfl (fun _ => ?_) (fun hq => absurd hq (fun q => absurd q (by decide)))
  refine lv_aload_n hx hb d_Mo_passes_9 rfl (lv_at hl 0 rfl) ?_
  refine lv_iconst (v := nI 0) hx hb d_Mo_passes_10 (by decide) ?_
  refine lv_iload_n hx hb d_Mo_passes_11 rfl (lv_at hl 1 rfl) ?_
  refine lv_aload_n hx hb d_Mo_passes_12 rfl (lv_at hl 0 rfl) ?_
  refine va_get (C := R_Mo) (T := F_Mo) (N := 44) hx hb hts (fun w h => List.mem_cons_of_mem _ (hin_Mo w h)) hown hK hP 0 rfl rfl 5 (by decide) (hts _ (List.mem_cons_of_mem _ fl_Mo_19)) (fun _ h => h) rfl d_Mo_passes_13 ?_
  refine lv_iconst (v := nI 0) hx hb d_Mo_passes_16 (by decide) ?_
  refine zk_iald hx hb hK hP 1 0 rfl rfl (by omega) (by omega) d_Mo_passes_17 ?_
  refine zk_topi (show (te 0) = nI tc from hte0) ?_
  have hPc := hP.sub (ws' := [(o, .inr (9, [(ϕ 0), (ϕ 1), .ref a_given, .ref a_holes, .int (zb true), .ref a_test, (ϕ 6), (ϕ 7), (ϕ 8), (ϕ 9), (ϕ 10), (ϕ 11), (ϕ 12), (ϕ 13), (ϕ 14), (ϕ 15), (ϕ 16), (ϕ 17), (ϕ 18), (ϕ 19), (ϕ 20), (ϕ 21), (ϕ 22), (ϕ 23), (ϕ 24), (ϕ 25), (ϕ 26), (ϕ 27), (ϕ 28), (ϕ 29), (ϕ 30), (ϕ 31), (ϕ 32), (ϕ 33), (ϕ 34), (ϕ 35), (ϕ 36), (ϕ 37), (ϕ 38), (ϕ 39), (ϕ 40), (ϕ 41), (ϕ 42), (ϕ 43)])), (a_holes, .inl (cI, 48, .inl ho))]) [0, 3] rfl
  refine zk_ri (va_runV (As := [.int (nI 0), .int (nI r), .int (nI tc)]) (rest := []) ⟨hx, hb, hml, hown, hts⟩ (c_Mo_given l D cI cL cZ cW cR o (vp_V [(ϕ 0), (ϕ 1), .ref a_given, .ref a_holes, .int (zb true), .ref a_test, (ϕ 6), (ϕ 7), (ϕ 8), (ϕ 9), (ϕ 10), (ϕ 11), (ϕ 12), (ϕ 13), (ϕ 14), (ϕ 15), (ϕ 16), (ϕ 17), (ϕ 18), (ϕ 19), (ϕ 20), (ϕ 21), (ϕ 22), (ϕ 23), (ϕ 24), (ϕ 25), (ϕ 26), (ϕ 27), (ϕ 28), (ϕ 29), (ϕ 30), (ϕ 31), (ϕ 32), (ϕ 33), (ϕ 34), (ϕ 35), (ϕ 36), (ϕ 37), (ϕ 38), (ϕ 39), (ϕ 40), (ϕ 41), (ϕ 42), (ϕ 43)]) a_holes ho 0 r tc (by decide) hr0 htc) (cwV 3 hts (zk_gV (fun _ h => List.mem_cons_of_mem _ h) ml_Mo_113 im_Mo_given se_Mo_given in_Mo co_Mo_given) rfl rfl rfl ⟨rfl, hd_Mo_given⟩ ⟨Nat.le_of_ble_eq_true rfl, Nat.le_of_ble_eq_true rfl⟩) (zk_vr (q0 := 0) hN hK hPc rfl rfl) rfl rfl hl.1 rfl (lv_room (Nat.le_of_ble_eq_true rfl)) d_Mo_passes_18 ⟨Nat.zero_le _, Nat.zero_le _⟩) ?_
  refine lv_istore_n (lv' := [(2, .int (zb (hBit (ho (24 * 0 + r)) tc))), (0, .ref o), (1, .int (nI r))]) hx hb d_Mo_passes_21 rfl hl (by decide) rfl (fun ls hl => ?_)
  refine lv_aload_n hx hb d_Mo_passes_22 rfl (lv_at hl 1 rfl) ?_
  refine lv_iconst (v := nI 0) hx hb d_Mo_passes_23 (by decide) ?_
  refine lv_iload_n hx hb d_Mo_passes_24 rfl (lv_at hl 2 rfl) ?_
  refine lv_aload_n hx hb d_Mo_passes_25 rfl (lv_at hl 1 rfl) ?_
  refine va_get (C := R_Mo) (T := F_Mo) (N := 44) hx hb hts (fun w h => List.mem_cons_of_mem _ (hin_Mo w h)) hown hK hP 0 rfl rfl 5 (by decide) (hts _ (List.mem_cons_of_mem _ fl_Mo_19)) (fun _ h => h) rfl d_Mo_passes_26 ?_
  refine lv_iconst (v := nI 0) hx hb d_Mo_passes_29 (by decide) ?_
  refine zk_iald hx hb hK hP 1 0 rfl rfl (by omega) (by omega) d_Mo_passes_30 ?_
  refine zk_topi (show (te 0) = nI tc from hte0) ?_
  have hPc := hP.sub (ws' := [(o, .inr (9, [(ϕ 0), (ϕ 1), .ref a_given, .ref a_holes, .int (zb true), .ref a_test, (ϕ 6), (ϕ 7), (ϕ 8), (ϕ 9), (ϕ 10), (ϕ 11), (ϕ 12), (ϕ 13), (ϕ 14), (ϕ 15), (ϕ 16), (ϕ 17), (ϕ 18), (ϕ 19), (ϕ 20), (ϕ 21), (ϕ 22), (ϕ 23), (ϕ 24), (ϕ 25), (ϕ 26), (ϕ 27), (ϕ 28), (ϕ 29), (ϕ 30), (ϕ 31), (ϕ 32), (ϕ 33), (ϕ 34), (ϕ 35), (ϕ 36), (ϕ 37), (ϕ 38), (ϕ 39), (ϕ 40), (ϕ 41), (ϕ 42), (ϕ 43)])), (a_given, .inl (cI, 144, .inl gv))]) [0, 2] rfl
  refine zk_ri (va_runV (As := [.int (nI 0), .int (nI r), .int (nI tc)]) (rest := []) ⟨hx, hb, hml, hown, hts⟩ (c_Mo_givenValue l D cI cL cZ cW cR o (vp_V [(ϕ 0), (ϕ 1), .ref a_given, .ref a_holes, .int (zb true), .ref a_test, (ϕ 6), (ϕ 7), (ϕ 8), (ϕ 9), (ϕ 10), (ϕ 11), (ϕ 12), (ϕ 13), (ϕ 14), (ϕ 15), (ϕ 16), (ϕ 17), (ϕ 18), (ϕ 19), (ϕ 20), (ϕ 21), (ϕ 22), (ϕ 23), (ϕ 24), (ϕ 25), (ϕ 26), (ϕ 27), (ϕ 28), (ϕ 29), (ϕ 30), (ϕ 31), (ϕ 32), (ϕ 33), (ϕ 34), (ϕ 35), (ϕ 36), (ϕ 37), (ϕ 38), (ϕ 39), (ϕ 40), (ϕ 41), (ϕ 42), (ϕ 43)]) a_given gv 0 r tc (by decide) hr0 htc) (cwV 3 hts (zk_gV (fun _ h => List.mem_cons_of_mem _ h) ml_Mo_115 im_Mo_givenValue se_Mo_givenValue in_Mo co_Mo_givenValue) rfl rfl rfl ⟨rfl, hd_Mo_givenValue⟩ ⟨Nat.le_of_ble_eq_true rfl, Nat.le_of_ble_eq_true rfl⟩) (zk_vr (q0 := 0) hN hK hPc rfl rfl) rfl rfl hl.1 rfl (lv_room (Nat.le_of_ble_eq_true rfl)) d_Mo_passes_31 ⟨Nat.zero_le _, Nat.zero_le _⟩) ?_
  refine lv_istore_n (lv' := [(3, .int (gv (72 * 0 + 3 * r + tc))), (2, .int (zb (hBit (ho (24 * 0 + r)) tc))), (0, .ref o), (1, .int (nI r))]) hx hb d_Mo_passes_34 rfl hl (by decide) rfl (fun ls hl => ?_)
  refine lv_aload_n hx hb d_Mo_passes_35 rfl (lv_at hl 2 rfl) ?_
  refine va_get (C := R_Mo) (T := F_Mo) (N := 44) hx hb hts (fun w h => List.mem_cons_of_mem _ (hin_Mo w h)) hown hK hP 0 rfl rfl 5 (by decide) (hts _ (List.mem_cons_of_mem _ fl_Mo_19)) (fun _ h => h) rfl d_Mo_passes_36 ?_
  refine lv_iconst (v := nI 1) hx hb d_Mo_passes_39 (by decide) ?_
  refine zk_iald hx hb hK hP 1 0 rfl rfl (by omega) (by omega) d_Mo_passes_40 ?_
  refine zk_topi (show (te 1) = nI 2 from hte1) ?_
  refine lv_tableIn (tgt := 112) (off := 71) hx hb d_Mo_passes_41 (by decide) (by decide) (by decide) rfl ?_
  refine lv_iload_n hx hb d_Mo_passes_112 rfl (lv_at hl 1 rfl) ?_
  refine zk_ifb_eq (tgt := 130) hx hb d_Mo_passes_113 rfl (fun h113 => ?_) (fun h113 => ?_)
  · skip
    refine lv_iconst (v := nI 0) hx hb d_Mo_passes_130 (by decide) ?_
    exact zk_zretR hx hb hr hlk hQ (by rw [h113]; first | exact zk_t (Int32.not_le.mp h123) | exact zk_f (Int32.not_lt.mpr h123) | rfl) d_Mo_passes_131
  · skip
    refine lv_iload_n hx hb d_Mo_passes_116 rfl (lv_at hl 0 rfl) ?_
    refine lv_aload_n hx hb d_Mo_passes_117 rfl (lv_at hl 2 rfl) ?_
    refine va_get (C := R_Mo) (T := F_Mo) (N := 44) hx hb hts (fun w h => List.mem_cons_of_mem _ (hin_Mo w h)) hown hK hP 0 rfl rfl 5 (by decide) (hts _ (List.mem_cons_of_mem _ fl_Mo_19)) (fun _ h => h) rfl d_Mo_passes_118 ?_
    refine lv_iconst (v := nI 2) hx hb d_Mo_passes_121 (by decide) ?_
    refine zk_iald hx hb hK hP 1 0 rfl rfl (by omega) (by omega) d_Mo_passes_122 ?_
    refine lv_icmp_le (tgt := 130) hx hb d_Mo_passes_123 rfl (fun h123 => ?_) (fun h123 => ?_)
    · skip
      refine lv_iconst (v := nI 0) hx hb d_Mo_passes_130 (by decide) ?_
      exact zk_zretR hx hb hr hlk hQ (by rw [h113]; first | exact zk_t (Int32.not_le.mp h123) | exact zk_f (Int32.not_lt.mpr h123) | rfl) d_Mo_passes_131
    · skip
      refine lv_iconst (v := nI 1) hx hb d_Mo_passes_126 (by decide) ?_
      refine lv_goto (tgt := 131) hx hb d_Mo_passes_127 rfl ?_
      exact zk_zretR hx hb hr hlk hQ (by rw [h113]; first | exact zk_t (Int32.not_le.mp h123) | exact zk_f (Int32.not_lt.mpr h123) | rfl) d_Mo_passes_131
set_option maxHeartbeats 4000000 in
set_option maxRecDepth 100000 in
theorem c_Mo_passes_3 (l : Launch) (D : va_G) (cI cL cZ cW cR : ClassId) (o : Nat) (ϕ : Nat → Value) (a_test a_given a_holes : Nat) (te : Nat → Int32) (gv : Nat → Int32) (ho : Nat → Int32) (r tc : Nat) (hr0 : r < 24) (htc : tc < 3) (hte0 : te 0 = nI tc) (hte1 : te 1 = nI 3) : Met l y_Mo_passes ws_Mo_passes rm1_30 (zPr D vwCl (zT cI cL cZ cW cR) [(o, .inr (9, [(ϕ 0), (ϕ 1), .ref a_given, .ref a_holes, .int (zb true), .ref a_test, (ϕ 6), (ϕ 7), (ϕ 8), (ϕ 9), (ϕ 10), (ϕ 11), (ϕ 12), (ϕ 13), (ϕ 14), (ϕ 15), (ϕ 16), (ϕ 17), (ϕ 18), (ϕ 19), (ϕ 20), (ϕ 21), (ϕ 22), (ϕ 23), (ϕ 24), (ϕ 25), (ϕ 26), (ϕ 27), (ϕ 28), (ϕ 29), (ϕ 30), (ϕ 31), (ϕ 32), (ϕ 33), (ϕ 34), (ϕ 35), (ϕ 36), (ϕ 37), (ϕ 38), (ϕ 39), (ϕ 40), (ϕ 41), (ϕ 42), (ϕ 43)])), (a_test, .inl (cI, 3, .inl te)), (a_given, .inl (cI, 144, .inl gv)), (a_holes, .inl (cI, 48, .inl ho))] [.ref o, .int (nI r)]) (zSi (zb (pass9 3 (hBit (ho (24 * 0 + r)) tc) (gv (72 * 0 + 3 * r + tc)) (te 2)))) 0 0 (fun _ => False) := by
  refine zk_enterR (cc := b_Mo_passes) (maxL := 4) (ret := some .boolean) (by decide) rfl (Nat.le_of_ble_eq_true rfl) ?_
  intro p e s m args below meth c ls Q hx hb hml hr hlk hown hts hP hK hN hl hQ
  have hl : lv_has ls 4 [(0, .ref o), (1, .int (nI r))] := hl
  refine lv_aload_n hx hb d_Mo_passes_0 rfl (lv_at hl 0 rfl) ?_
  refine va_get (C := R_Mo) (T := F_Mo) (N := 44) hx hb hts (fun w h => List.mem_cons_of_mem _ (hin_Mo w h)) hown hK hP 0 rfl rfl 4 (by decide) (hts _ (List.mem_cons_of_mem _ fl_Mo_85)) (fun _ h => h) rfl d_Mo_passes_1 ?_
  refine zk_ifb_ne (tgt := 9) hx hb d_Mo_passes_4 rfl (fun _ => ?_) (fun hq => absurd hq (fun q => absurd q (by decide)))
  refine lv_aload_n hx hb d_Mo_passes_9 rfl (lv_at hl 0 rfl) ?_
  refine lv_iconst (v := nI 0) hx hb d_Mo_passes_10 (by decide) ?_
  refine lv_iload_n hx hb d_Mo_passes_11 rfl (lv_at hl 1 rfl) ?_
  refine lv_aload_n hx hb d_Mo_passes_12 rfl (lv_at hl 0 rfl) ?_
  refine va_get (C := R_Mo) (T := F_Mo) (N := 44) hx hb hts (fun w h => List.mem_cons_of_mem _ (hin_Mo w h)) hown hK hP 0 rfl rfl 5 (by decide) (hts _ (List.mem_cons_of_mem _ fl_Mo_19)) (fun _ h => h) rfl d_Mo_passes_13 ?_
  refine lv_iconst (v := nI 0) hx hb d_Mo_passes_16 (by decide) ?_
  refine zk_iald hx hb hK hP 1 0 rfl rfl (by omega) (by omega) d_Mo_passes_17 ?_
  refine zk_topi (show (te 0) = nI tc from hte0) ?_
  have hPc := hP.sub (ws' := [(o, .inr (9, [(ϕ 0), (ϕ 1), .ref a_given, .ref a_holes, .int (zb true), .ref a_test, (ϕ 6), (ϕ 7), (ϕ 8), (ϕ 9), (ϕ 10), (ϕ 11), (ϕ 12), (ϕ 13), (ϕ 14), (ϕ 15), (ϕ 16), (ϕ 17), (ϕ 18), (ϕ 19), (ϕ 20), (ϕ 21), (ϕ 22), (ϕ 23), (ϕ 24), (ϕ 25), (ϕ 26), (ϕ 27), (ϕ 28), (ϕ 29), (ϕ 30), (ϕ 31), (ϕ 32), (ϕ 33), (ϕ 34), (ϕ 35), (ϕ 36), (ϕ 37), (ϕ 38), (ϕ 39), (ϕ 40), (ϕ 41), (ϕ 42), (ϕ 43)])), (a_holes, .inl (cI, 48, .inl ho))]) [0, 3] rfl
  refine zk_ri (va_runV (As := [.int (nI 0), .int (nI r), .int (nI tc)]) (rest := []) ⟨hx, hb, hml, hown, hts⟩ (c_Mo_given l D cI cL cZ cW cR o (vp_V [(ϕ 0), (ϕ 1), .ref a_given, .ref a_holes, .int (zb true), .ref a_test, (ϕ 6), (ϕ 7), (ϕ 8), (ϕ 9), (ϕ 10), (ϕ 11), (ϕ 12), (ϕ 13), (ϕ 14), (ϕ 15), (ϕ 16), (ϕ 17), (ϕ 18), (ϕ 19), (ϕ 20), (ϕ 21), (ϕ 22), (ϕ 23), (ϕ 24), (ϕ 25), (ϕ 26), (ϕ 27), (ϕ 28), (ϕ 29), (ϕ 30), (ϕ 31), (ϕ 32), (ϕ 33), (ϕ 34), (ϕ 35), (ϕ 36), (ϕ 37), (ϕ 38), (ϕ 39), (ϕ 40), (ϕ 41), (ϕ 42), (ϕ 43)]) a_holes ho 0 r tc (by decide) hr0 htc) (cwV 3 hts (zk_gV (fun _ h => List.mem_cons_of_mem _ h) ml_Mo_113 im_Mo_given se_Mo_given in_Mo co_Mo_given) rfl rfl rfl ⟨rfl, hd_Mo_given⟩ ⟨Nat.le_of_ble_eq_true rfl, Nat.le_of_ble_eq_true rfl⟩) (zk_vr (q0 := 0) hN hK hPc rfl rfl) rfl rfl hl.1 rfl (lv_room (Nat.le_of_ble_eq_true rfl)) d_Mo_passes_18 ⟨Nat.zero_le _, Nat.zero_le _⟩) ?_
  refine lv_istore_n (lv' := [(2, .int (zb (hBit (ho (24 * 0 + r)) tc))), (0, .ref o), (1, .int (nI r))]) hx hb d_Mo_passes_21 rfl hl (by decide) rfl (fun ls hl => ?_)
  refine lv_aload_n hx hb d_Mo_passes_22 rfl (lv_at hl 1 rfl) ?_
  refine lv_iconst (v := nI 0) hx hb d_Mo_passes_23 (by decide) ?_
  refine lv_iload_n hx hb d_Mo_passes_24 rfl (lv_at hl 2 rfl) ?_
  refine lv_aload_n hx hb d_Mo_passes_25 rfl (lv_at hl 1 rfl) ?_
  refine va_get (C := R_Mo) (T := F_Mo) (N := 44) hx hb hts (fun w h => List.mem_cons_of_mem _ (hin_Mo w h)) hown hK hP 0 rfl rfl 5 (by decide) (hts _ (List.mem_cons_of_mem _ fl_Mo_19)) (fun _ h => h) rfl d_Mo_passes_26 ?_
  refine lv_iconst (v := nI 0) hx hb d_Mo_passes_29 (by decide) ?_
  refine zk_iald hx hb hK hP 1 0 rfl rfl (by omega) (by omega) d_Mo_passes_30 ?_
  refine zk_topi (show (te 0) = nI tc from hte0) ?_
  have hPc := hP.sub (ws' := [(o, .inr (9, [(ϕ 0), (ϕ 1), .ref a_given, .ref a_holes, .int (zb true), .ref a_test, (ϕ 6), (ϕ 7), (ϕ 8), (ϕ 9), (ϕ 10), (ϕ 11), (ϕ 12), (ϕ 13), (ϕ 14), (ϕ 15), (ϕ 16), (ϕ 17), (ϕ 18), (ϕ 19), (ϕ 20), (ϕ 21), (ϕ 22), (ϕ 23), (ϕ 24), (ϕ 25), (ϕ 26), (ϕ 27), (ϕ 28), (ϕ 29), (ϕ 30), (ϕ 31), (ϕ 32), (ϕ 33), (ϕ 34), (ϕ 35), (ϕ 36), (ϕ 37), (ϕ 38), (ϕ 39), (ϕ 40), (ϕ 41), (ϕ 42), (ϕ 43)])), (a_given, .inl (cI, 144, .inl gv))]) [0, 2] rfl
  refine zk_ri (va_runV (As := [.int (nI 0), .int (nI r), .int (nI tc)]) (rest := []) ⟨hx, hb, hml, hown, hts⟩ (c_Mo_givenValue l D cI cL cZ cW cR o (vp_V [(ϕ 0), (ϕ 1), .ref a_given, .ref a_holes, .int (zb true), .ref a_test, (ϕ 6), (ϕ 7), (ϕ 8), (ϕ 9), (ϕ 10), (ϕ 11), (ϕ 12), (ϕ 13), (ϕ 14), (ϕ 15), (ϕ 16), (ϕ 17), (ϕ 18), (ϕ 19), (ϕ 20), (ϕ 21), (ϕ 22), (ϕ 23), (ϕ 24), (ϕ 25), (ϕ 26), (ϕ 27), (ϕ 28), (ϕ 29), (ϕ 30), (ϕ 31), (ϕ 32), (ϕ 33), (ϕ 34), (ϕ 35), (ϕ 36), (ϕ 37), (ϕ 38), (ϕ 39), (ϕ 40), (ϕ 41), (ϕ 42), (ϕ 43)]) a_given gv 0 r tc (by decide) hr0 htc) (cwV 3 hts (zk_gV (fun _ h => List.mem_cons_of_mem _ h) ml_Mo_115 im_Mo_givenValue se_Mo_givenValue in_Mo co_Mo_givenValue) rfl rfl rfl ⟨rfl, hd_Mo_givenValue⟩ ⟨Nat.le_of_ble_eq_true rfl, Nat.le_of_ble_eq_true rfl⟩) (zk_vr (q0 := 0) hN hK hPc rfl rfl) rfl rfl hl.1 rfl (lv_room (Nat.le_of_ble_eq_true rfl)) d_Mo_passes_31 ⟨Nat.zero_le _, Nat.zero_le _⟩) ?_
  refine lv_istore_n (lv' := [(3, .int (gv (72 * 0 + 3 * r + tc))), (2, .int (zb (hBit (ho (24 * 0 + r)) tc))), (0, .ref o), (1, .int (nI r))]) hx hb d_Mo_passes_34 rfl hl (by decide) rfl (fun ls hl => ?_)
  refine lv_aload_n hx hb d_Mo_passes_35 rfl (lv_at hl 2 rfl) ?_
  refine va_get (C := R_Mo) (T := F_Mo) (N := 44) hx hb hts (fun w h => List.mem_cons_of_mem _ (hin_Mo w h)) hown hK hP 0 rfl rfl 5 (by decide) (hts _ (List.mem_cons_of_mem _ fl_Mo_19)) (fun _ h => h) rfl d_Mo_passes_36 ?_
  refine lv_iconst (v := nI 1) hx hb d_Mo_passes_39 (by decide) ?_
  refine zk_iald hx hb hK hP 1 0 rfl rfl (by omega) (by omega) d_Mo_passes_40 ?_
  refine zk_topi (show (te 1) = nI 3 from hte1) ?_
  refine lv_tableIn (tgt := 132) (off := 91) hx hb d_Mo_passes_41 (by decide) (by decide) (by decide) rfl ?_
  refine lv_iload_n hx hb d_Mo_passes_132 rfl (lv_at hl 1 rfl) ?_
  refine zk_ifb_ne (tgt := 140) hx hb d_Mo_passes_133 rfl (fun h133 => ?_) (fun h133 => ?_)
  · skip
    refine lv_iconst (v := nI 0) hx hb d_Mo_passes_140 (by decide) ?_
    exact zk_zretR hx hb hr hlk hQ (by rw [h133]; rfl) d_Mo_passes_141
  · skip
    refine lv_iconst (v := nI 1) hx hb d_Mo_passes_136 (by decide) ?_
    refine lv_goto (tgt := 141) hx hb d_Mo_passes_137 rfl ?_
    exact zk_zretR hx hb hr hlk hQ (by rw [h133]; rfl) d_Mo_passes_141
set_option maxHeartbeats 4000000 in
set_option maxRecDepth 100000 in
theorem c_Mo_passes_4 (l : Launch) (D : va_G) (cI cL cZ cW cR : ClassId) (o : Nat) (ϕ : Nat → Value) (a_test a_given a_holes : Nat) (te : Nat → Int32) (gv : Nat → Int32) (ho : Nat → Int32) (r tc : Nat) (hr0 : r < 24) (htc : tc < 3) (hte0 : te 0 = nI tc) (hte1 : te 1 = nI 4) : Met l y_Mo_passes ws_Mo_passes rm1_30 (zPr D vwCl (zT cI cL cZ cW cR) [(o, .inr (9, [(ϕ 0), (ϕ 1), .ref a_given, .ref a_holes, .int (zb true), .ref a_test, (ϕ 6), (ϕ 7), (ϕ 8), (ϕ 9), (ϕ 10), (ϕ 11), (ϕ 12), (ϕ 13), (ϕ 14), (ϕ 15), (ϕ 16), (ϕ 17), (ϕ 18), (ϕ 19), (ϕ 20), (ϕ 21), (ϕ 22), (ϕ 23), (ϕ 24), (ϕ 25), (ϕ 26), (ϕ 27), (ϕ 28), (ϕ 29), (ϕ 30), (ϕ 31), (ϕ 32), (ϕ 33), (ϕ 34), (ϕ 35), (ϕ 36), (ϕ 37), (ϕ 38), (ϕ 39), (ϕ 40), (ϕ 41), (ϕ 42), (ϕ 43)])), (a_test, .inl (cI, 3, .inl te)), (a_given, .inl (cI, 144, .inl gv)), (a_holes, .inl (cI, 48, .inl ho))] [.ref o, .int (nI r)]) (zSi (zb (pass9 4 (hBit (ho (24 * 0 + r)) tc) (gv (72 * 0 + 3 * r + tc)) (te 2)))) 0 0 (fun _ => False) := by
  refine zk_enterR (cc := b_Mo_passes) (maxL := 4) (ret := some .boolean) (by decide) rfl (Nat.le_of_ble_eq_true rfl) ?_
  intro p e s m args below meth c ls Q hx hb hml hr hlk hown hts hP hK hN hl hQ
  have hl : lv_has ls 4 [(0, .ref o), (1, .int (nI r))] := hl
  refine lv_aload_n hx hb d_Mo_passes_0 rfl (lv_at hl 0 rfl) ?_
  refine va_get (C := R_Mo) (T := F_Mo) (N := 44) hx hb hts (fun w h => List.mem_cons_of_mem _ (hin_Mo w h)) hown hK hP 0 rfl rfl 4 (by decide) (hts _ (List.mem_cons_of_mem _ fl_Mo_85)) (fun _ h => h) rfl d_Mo_passes_1 ?_
  refine zk_ifb_ne (tgt := 9) hx hb d_Mo_passes_4 rfl (fun _ => ?_) (fun hq => absurd hq (fun q => absurd q (by decide)))
  refine lv_aload_n hx hb d_Mo_passes_9 rfl (lv_at hl 0 rfl) ?_
  refine lv_iconst (v := nI 0) hx hb d_Mo_passes_10 (by decide) ?_
  refine lv_iload_n hx hb d_Mo_passes_11 rfl (lv_at hl 1 rfl) ?_
  refine lv_aload_n hx hb d_Mo_passes_12 rfl (lv_at hl 0 rfl) ?_
  refine va_get (C := R_Mo) (T := F_Mo) (N := 44) hx hb hts (fun w h => List.mem_cons_of_mem _ (hin_Mo w h)) hown hK hP 0 rfl rfl 5 (by decide) (hts _ (List.mem_cons_of_mem _ fl_Mo_19)) (fun _ h => h) rfl d_Mo_passes_13 ?_
  refine lv_iconst (v := nI 0) hx hb d_Mo_passes_16 (by decide) ?_
  refine zk_iald hx hb hK hP 1 0 rfl rfl (by omega) (by omega) d_Mo_passes_17 ?_
  refine zk_topi (show (te 0) = nI tc from hte0) ?_
  have hPc := hP.sub (ws' := [(o, .inr (9, [(ϕ 0), (ϕ 1), .ref a_given, .ref a_holes, .int (zb true), .ref a_test, (ϕ 6), (ϕ 7), (ϕ 8), (ϕ 9), (ϕ 10), (ϕ 11), (ϕ 12), (ϕ 13), (ϕ 14), (ϕ 15), (ϕ 16), (ϕ 17), (ϕ 18), (ϕ 19), (ϕ 20), (ϕ 21), (ϕ 22), (ϕ 23), (ϕ 24), (ϕ 25), (ϕ 26), (ϕ 27), (ϕ 28), (ϕ 29), (ϕ 30), (ϕ 31), (ϕ 32), (ϕ 33), (ϕ 34), (ϕ 35), (ϕ 36), (ϕ 37), (ϕ 38), (ϕ 39), (ϕ 40), (ϕ 41), (ϕ 42), (ϕ 43)])), (a_holes, .inl (cI, 48, .inl ho))]) [0, 3] rfl
  refine zk_ri (va_runV (As := [.int (nI 0), .int (nI r), .int (nI tc)]) (rest := []) ⟨hx, hb, hml, hown, hts⟩ (c_Mo_given l D cI cL cZ cW cR o (vp_V [(ϕ 0), (ϕ 1), .ref a_given, .ref a_holes, .int (zb true), .ref a_test, (ϕ 6), (ϕ 7), (ϕ 8), (ϕ 9), (ϕ 10), (ϕ 11), (ϕ 12), (ϕ 13), (ϕ 14), (ϕ 15), (ϕ 16), (ϕ 17), (ϕ 18), (ϕ 19), (ϕ 20), (ϕ 21), (ϕ 22), (ϕ 23), (ϕ 24), (ϕ 25), (ϕ 26), (ϕ 27), (ϕ 28), (ϕ 29), (ϕ 30), (ϕ 31), (ϕ 32), (ϕ 33), (ϕ 34), (ϕ 35), (ϕ 36), (ϕ 37), (ϕ 38), (ϕ 39), (ϕ 40), (ϕ 41), (ϕ 42), (ϕ 43)]) a_holes ho 0 r tc (by decide) hr0 htc) (cwV 3 hts (zk_gV (fun _ h => List.mem_cons_of_mem _ h) ml_Mo_113 im_Mo_given se_Mo_given in_Mo co_Mo_given) rfl rfl rfl ⟨rfl, hd_Mo_given⟩ ⟨Nat.le_of_ble_eq_true rfl, Nat.le_of_ble_eq_true rfl⟩) (zk_vr (q0 := 0) hN hK hPc rfl rfl) rfl rfl hl.1 rfl (lv_room (Nat.le_of_ble_eq_true rfl)) d_Mo_passes_18 ⟨Nat.zero_le _, Nat.zero_le _⟩) ?_
  refine lv_istore_n (lv' := [(2, .int (zb (hBit (ho (24 * 0 + r)) tc))), (0, .ref o), (1, .int (nI r))]) hx hb d_Mo_passes_21 rfl hl (by decide) rfl (fun ls hl => ?_)
  refine lv_aload_n hx hb d_Mo_passes_22 rfl (lv_at hl 1 rfl) ?_
  refine lv_iconst (v := nI 0) hx hb d_Mo_passes_23 (by decide) ?_
  refine lv_iload_n hx hb d_Mo_passes_24 rfl (lv_at hl 2 rfl) ?_
  refine lv_aload_n hx hb d_Mo_passes_25 rfl (lv_at hl 1 rfl) ?_
  refine va_get (C := R_Mo) (T := F_Mo) (N := 44) hx hb hts (fun w h => List.mem_cons_of_mem _ (hin_Mo w h)) hown hK hP 0 rfl rfl 5 (by decide) (hts _ (List.mem_cons_of_mem _ fl_Mo_19)) (fun _ h => h) rfl d_Mo_passes_26 ?_
  refine lv_iconst (v := nI 0) hx hb d_Mo_passes_29 (by decide) ?_
  refine zk_iald hx hb hK hP 1 0 rfl rfl (by omega) (by omega) d_Mo_passes_30 ?_
  refine zk_topi (show (te 0) = nI tc from hte0) ?_
  have hPc := hP.sub (ws' := [(o, .inr (9, [(ϕ 0), (ϕ 1), .ref a_given, .ref a_holes, .int (zb true), .ref a_test, (ϕ 6), (ϕ 7), (ϕ 8), (ϕ 9), (ϕ 10), (ϕ 11), (ϕ 12), (ϕ 13), (ϕ 14), (ϕ 15), (ϕ 16), (ϕ 17), (ϕ 18), (ϕ 19), (ϕ 20), (ϕ 21), (ϕ 22), (ϕ 23), (ϕ 24), (ϕ 25), (ϕ 26), (ϕ 27), (ϕ 28), (ϕ 29), (ϕ 30), (ϕ 31), (ϕ 32), (ϕ 33), (ϕ 34), (ϕ 35), (ϕ 36), (ϕ 37), (ϕ 38), (ϕ 39), (ϕ 40), (ϕ 41), (ϕ 42), (ϕ 43)])), (a_given, .inl (cI, 144, .inl gv))]) [0, 2] rfl
  refine zk_ri (va_runV (As := [.int (nI 0), .int (nI r), .int (nI tc)]) (rest := []) ⟨hx, hb, hml, hown, hts⟩ (c_Mo_givenValue l D cI cL cZ cW cR o (vp_V [(ϕ 0), (ϕ 1), .ref a_given, .ref a_holes, .int (zb true), .ref a_test, (ϕ 6), (ϕ 7), (ϕ 8), (ϕ 9), (ϕ 10), (ϕ 11), (ϕ 12), (ϕ 13), (ϕ 14), (ϕ 15), (ϕ 16), (ϕ 17), (ϕ 18), (ϕ 19), (ϕ 20), (ϕ 21), (ϕ 22), (ϕ 23), (ϕ 24), (ϕ 25), (ϕ 26), (ϕ 27), (ϕ 28), (ϕ 29), (ϕ 30), (ϕ 31), (ϕ 32), (ϕ 33), (ϕ 34), (ϕ 35), (ϕ 36), (ϕ 37), (ϕ 38), (ϕ 39), (ϕ 40), (ϕ 41), (ϕ 42), (ϕ 43)]) a_given gv 0 r tc (by decide) hr0 htc) (cwV 3 hts (zk_gV (fun _ h => List.mem_cons_of_mem _ h) ml_Mo_115 im_Mo_givenValue se_Mo_givenValue in_Mo co_Mo_givenValue) rfl rfl rfl ⟨rfl, hd_Mo_givenValue⟩ ⟨Nat.le_of_ble_eq_true rfl, Nat.le_of_ble_eq_true rfl⟩) (zk_vr (q0 := 0) hN hK hPc rfl rfl) rfl rfl hl.1 rfl (lv_room (Nat.le_of_ble_eq_true rfl)) d_Mo_passes_31 ⟨Nat.zero_le _, Nat.zero_le _⟩) ?_
  refine lv_istore_n (lv' := [(3, .int (gv (72 * 0 + 3 * r + tc))), (2, .int (zb (hBit (ho (24 * 0 + r)) tc))), (0, .ref o), (1, .int (nI r))]) hx hb d_Mo_passes_34 rfl hl (by decide) rfl (fun ls hl => ?_)
  refine lv_aload_n hx hb d_Mo_passes_35 rfl (lv_at hl 2 rfl) ?_
  refine va_get (C := R_Mo) (T := F_Mo) (N := 44) hx hb hts (fun w h => List.mem_cons_of_mem _ (hin_Mo w h)) hown hK hP 0 rfl rfl 5 (by decide) (hts _ (List.mem_cons_of_mem _ fl_Mo_19)) (fun _ h => h) rfl d_Mo_passes_36 ?_
  refine lv_iconst (v := nI 1) hx hb d_Mo_passes_39 (by decide) ?_
  refine zk_iald hx hb hK hP 1 0 rfl rfl (by omega) (by omega) d_Mo_passes_40 ?_
  refine zk_topi (show (te 1) = nI 4 from hte1) ?_
  refine lv_tableOut (tgt := 142) hx hb d_Mo_passes_41 (by decide) rfl ?_
  refine lv_iload_n hx hb d_Mo_passes_142 rfl (lv_at hl 1 rfl) ?_
  exact zk_zretR hx hb hr hlk hQ (rfl) d_Mo_passes_143
theorem c_Mo_passes (l : Launch) (D : va_G) (cI cL cZ cW cR : ClassId) (o : Nat) (ϕ : Nat → Value) (a_test a_given a_holes : Nat) (flt : Bool) (te : Nat → Int32) (gv : Nat → Int32) (ho : Nat → Int32) (r tc : Nat) (hr0 : r < 24) (htc : tc < 3) (hte0 : te 0 = nI tc) (op : Nat) (hop : op ≤ 4) (hte1 : flt = true → te 1 = nI op) : Met l y_Mo_passes ws_Mo_passes rm1_30 (zPr D vwCl (zT cI cL cZ cW cR) [(o, .inr (9, [(ϕ 0), (ϕ 1), .ref a_given, .ref a_holes, .int (zb flt), .ref a_test, (ϕ 6), (ϕ 7), (ϕ 8), (ϕ 9), (ϕ 10), (ϕ 11), (ϕ 12), (ϕ 13), (ϕ 14), (ϕ 15), (ϕ 16), (ϕ 17), (ϕ 18), (ϕ 19), (ϕ 20), (ϕ 21), (ϕ 22), (ϕ 23), (ϕ 24), (ϕ 25), (ϕ 26), (ϕ 27), (ϕ 28), (ϕ 29), (ϕ 30), (ϕ 31), (ϕ 32), (ϕ 33), (ϕ 34), (ϕ 35), (ϕ 36), (ϕ 37), (ϕ 38), (ϕ 39), (ϕ 40), (ϕ 41), (ϕ 42), (ϕ 43)])), (a_test, .inl (cI, 3, .inl te)), (a_given, .inl (cI, 144, .inl gv)), (a_holes, .inl (cI, 48, .inl ho))] [.ref o, .int (nI r)]) (zSi (zb (if flt = true then pass9 op (hBit (ho (24 * 0 + r)) tc) (gv (72 * 0 + 3 * r + tc)) (te 2) else true))) 0 0 (fun _ => False) := by
  cases flt with
  | false => exact c_Mo_passes_n l D cI cL cZ cW cR o ϕ a_test a_given a_holes te gv ho r tc hr0 htc hte0
  | true =>
    have h1 := hte1 rfl
    rcases (show op = 0 ∨ op = 1 ∨ op = 2 ∨ op = 3 ∨ op = 4 by omega) with rfl | rfl | rfl | rfl | rfl
    · exact c_Mo_passes_0 l D cI cL cZ cW cR o ϕ a_test a_given a_holes te gv ho r tc hr0 htc hte0 h1
    · exact c_Mo_passes_1 l D cI cL cZ cW cR o ϕ a_test a_given a_holes te gv ho r tc hr0 htc hte0 h1
    · exact c_Mo_passes_2 l D cI cL cZ cW cR o ϕ a_test a_given a_holes te gv ho r tc hr0 htc hte0 h1
    · exact c_Mo_passes_3 l D cI cL cZ cW cR o ϕ a_test a_given a_holes te gv ho r tc hr0 htc hte0 h1
    · exact c_Mo_passes_4 l D cI cL cZ cW cR o ϕ a_test a_given a_holes te gv ho r tc hr0 htc hte0 h1
