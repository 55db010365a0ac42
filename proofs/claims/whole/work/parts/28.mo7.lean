theorem d_Mo_ordered_0 : decode b_Mo_ordered 0 = .ok (.aload_n 0, 1) := by decide +kernel
theorem d_Mo_ordered_1 : decode b_Mo_ordered 1 = .ok (.getfield 31, 3) := by decide +kernel
theorem d_Mo_ordered_4 : decode b_Mo_ordered 4 = .ok (.iload_n 1, 1) := by decide +kernel
theorem d_Mo_ordered_5 : decode b_Mo_ordered 5 = .ok (.iaload, 1) := by decide +kernel
theorem d_Mo_ordered_6 : decode b_Mo_ordered 6 = .ok (.ifCond .lt 7, 3) := by decide +kernel
theorem d_Mo_ordered_9 : decode b_Mo_ordered 9 = .ok (.iconst 1, 1) := by decide +kernel
theorem d_Mo_ordered_10 : decode b_Mo_ordered 10 = .ok (.goto 4, 3) := by decide +kernel
theorem d_Mo_ordered_13 : decode b_Mo_ordered 13 = .ok (.iconst 0, 1) := by decide +kernel
theorem d_Mo_ordered_14 : decode b_Mo_ordered 14 = .ok (.istore_n 2, 1) := by decide +kernel
theorem d_Mo_ordered_15 : decode b_Mo_ordered 15 = .ok (.aload_n 0, 1) := by decide +kernel
theorem d_Mo_ordered_16 : decode b_Mo_ordered 16 = .ok (.getfield 165, 3) := by decide +kernel
theorem d_Mo_ordered_19 : decode b_Mo_ordered 19 = .ok (.ifCond .lt 22, 3) := by decide +kernel
theorem d_Mo_ordered_22 : decode b_Mo_ordered 22 = .ok (.iload_n 2, 1) := by decide +kernel
theorem d_Mo_ordered_23 : decode b_Mo_ordered 23 = .ok (.ifCond .eq 20, 3) := by decide +kernel
theorem d_Mo_ordered_26 : decode b_Mo_ordered 26 = .ok (.aload_n 0, 1) := by decide +kernel
theorem d_Mo_ordered_27 : decode b_Mo_ordered 27 = .ok (.iconst 0, 1) := by decide +kernel
theorem d_Mo_ordered_28 : decode b_Mo_ordered 28 = .ok (.aload_n 0, 1) := by decide +kernel
theorem d_Mo_ordered_29 : decode b_Mo_ordered 29 = .ok (.getfield 31, 3) := by decide +kernel
theorem d_Mo_ordered_32 : decode b_Mo_ordered 32 = .ok (.iload_n 1, 1) := by decide +kernel
theorem d_Mo_ordered_33 : decode b_Mo_ordered 33 = .ok (.iaload, 1) := by decide +kernel
theorem d_Mo_ordered_34 : decode b_Mo_ordered 34 = .ok (.iconst 0, 1) := by decide +kernel
theorem d_Mo_ordered_35 : decode b_Mo_ordered 35 = .ok (.invokevirtual 178, 3) := by decide +kernel
theorem d_Mo_ordered_38 : decode b_Mo_ordered 38 = .ok (.ifCond .ne 5, 3) := by decide +kernel
theorem d_Mo_ordered_41 : decode b_Mo_ordered 41 = .ok (.iconst 0, 1) := by decide +kernel
theorem d_Mo_ordered_42 : decode b_Mo_ordered 42 = .ok (.ireturn, 1) := by decide +kernel
theorem d_Mo_ordered_43 : decode b_Mo_ordered 43 = .ok (.aload_n 0, 1) := by decide +kernel
theorem d_Mo_ordered_44 : decode b_Mo_ordered 44 = .ok (.getfield 34, 3) := by decide +kernel
theorem d_Mo_ordered_47 : decode b_Mo_ordered 47 = .ok (.iload_n 1, 1) := by decide +kernel
theorem d_Mo_ordered_48 : decode b_Mo_ordered 48 = .ok (.iaload, 1) := by decide +kernel
theorem d_Mo_ordered_49 : decode b_Mo_ordered 49 = .ok (.ifCond .lt 31, 3) := by decide +kernel
theorem d_Mo_ordered_52 : decode b_Mo_ordered 52 = .ok (.aload_n 0, 1) := by decide +kernel
theorem d_Mo_ordered_53 : decode b_Mo_ordered 53 = .ok (.iload_n 2, 1) := by decide +kernel
theorem d_Mo_ordered_54 : decode b_Mo_ordered 54 = .ok (.ifCond .eq 7, 3) := by decide +kernel
theorem d_Mo_ordered_57 : decode b_Mo_ordered 57 = .ok (.iconst 1, 1) := by decide +kernel
theorem d_Mo_ordered_58 : decode b_Mo_ordered 58 = .ok (.goto 4, 3) := by decide +kernel
theorem d_Mo_ordered_61 : decode b_Mo_ordered 61 = .ok (.iconst 0, 1) := by decide +kernel
theorem d_Mo_ordered_62 : decode b_Mo_ordered 62 = .ok (.aload_n 0, 1) := by decide +kernel
theorem d_Mo_ordered_63 : decode b_Mo_ordered 63 = .ok (.getfield 34, 3) := by decide +kernel
theorem d_Mo_ordered_66 : decode b_Mo_ordered 66 = .ok (.iload_n 1, 1) := by decide +kernel
theorem d_Mo_ordered_67 : decode b_Mo_ordered 67 = .ok (.iaload, 1) := by decide +kernel
theorem d_Mo_ordered_68 : decode b_Mo_ordered 68 = .ok (.aload_n 0, 1) := by decide +kernel
theorem d_Mo_ordered_69 : decode b_Mo_ordered 69 = .ok (.getfield 37, 3) := by decide +kernel
theorem d_Mo_ordered_72 : decode b_Mo_ordered 72 = .ok (.iload_n 1, 1) := by decide +kernel
theorem d_Mo_ordered_73 : decode b_Mo_ordered 73 = .ok (.baload, 1) := by decide +kernel
theorem d_Mo_ordered_74 : decode b_Mo_ordered 74 = .ok (.invokevirtual 178, 3) := by decide +kernel
theorem d_Mo_ordered_77 : decode b_Mo_ordered 77 = .ok (.ifCond .eq 7, 3) := by decide +kernel
theorem d_Mo_ordered_80 : decode b_Mo_ordered 80 = .ok (.iconst 1, 1) := by decide +kernel
theorem d_Mo_ordered_81 : decode b_Mo_ordered 81 = .ok (.goto 4, 3) := by decide +kernel
theorem d_Mo_ordered_84 : decode b_Mo_ordered 84 = .ok (.iconst 0, 1) := by decide +kernel
theorem d_Mo_ordered_85 : decode b_Mo_ordered 85 = .ok (.ireturn, 1) := by decide +kernel
theorem d_Mo_resultAt_0 : decode b_Mo_resultAt 0 = .ok (.iload_n 3, 1) := by decide +kernel
theorem d_Mo_resultAt_1 : decode b_Mo_resultAt 1 = .ok (.iload 4, 2) := by decide +kernel
theorem d_Mo_resultAt_3 : decode b_Mo_resultAt 3 = .ok (.if_icmp .lt 13, 3) := by decide +kernel
theorem d_Mo_resultAt_6 : decode b_Mo_resultAt 6 = .ok (.iload_n 3, 1) := by decide +kernel
theorem d_Mo_resultAt_7 : decode b_Mo_resultAt 7 = .ok (.iload 5, 2) := by decide +kernel
theorem d_Mo_resultAt_9 : decode b_Mo_resultAt 9 = .ok (.if_icmp .ge 7, 3) := by decide +kernel
theorem d_Mo_resultAt_12 : decode b_Mo_resultAt 12 = .ok (.iconst 1, 1) := by decide +kernel
theorem d_Mo_resultAt_13 : decode b_Mo_resultAt 13 = .ok (.goto 4, 3) := by decide +kernel
theorem d_Mo_resultAt_16 : decode b_Mo_resultAt 16 = .ok (.iconst 0, 1) := by decide +kernel
theorem d_Mo_resultAt_17 : decode b_Mo_resultAt 17 = .ok (.istore 6, 2) := by decide +kernel
theorem d_Mo_resultAt_19 : decode b_Mo_resultAt 19 = .ok (.iload 6, 2) := by decide +kernel
theorem d_Mo_resultAt_21 : decode b_Mo_resultAt 21 = .ok (.ifCond .eq 22, 3) := by decide +kernel
theorem d_Mo_resultAt_24 : decode b_Mo_resultAt 24 = .ok (.bipush 9, 2) := by decide +kernel
theorem d_Mo_resultAt_26 : decode b_Mo_resultAt 26 = .ok (.aload_n 0, 1) := by decide +kernel
theorem d_Mo_resultAt_27 : decode b_Mo_resultAt 27 = .ok (.getfield 65, 3) := by decide +kernel
theorem d_Mo_resultAt_30 : decode b_Mo_resultAt 30 = .ok (.iload_n 3, 1) := by decide +kernel
theorem d_Mo_resultAt_31 : decode b_Mo_resultAt 31 = .ok (.iaload, 1) := by decide +kernel
theorem d_Mo_resultAt_32 : decode b_Mo_resultAt 32 = .ok (.imul, 1) := by decide +kernel
theorem d_Mo_resultAt_33 : decode b_Mo_resultAt 33 = .ok (.aload_n 0, 1) := by decide +kernel
theorem d_Mo_resultAt_34 : decode b_Mo_resultAt 34 = .ok (.getfield 25, 3) := by decide +kernel
theorem d_Mo_resultAt_37 : decode b_Mo_resultAt 37 = .ok (.iload_n 1, 1) := by decide +kernel
theorem d_Mo_resultAt_38 : decode b_Mo_resultAt 38 = .ok (.iaload, 1) := by decide +kernel
theorem d_Mo_resultAt_39 : decode b_Mo_resultAt 39 = .ok (.iadd, 1) := by decide +kernel
theorem d_Mo_resultAt_40 : decode b_Mo_resultAt 40 = .ok (.goto 4, 3) := by decide +kernel
theorem d_Mo_resultAt_43 : decode b_Mo_resultAt 43 = .ok (.iconst 0, 1) := by decide +kernel
theorem d_Mo_resultAt_44 : decode b_Mo_resultAt 44 = .ok (.istore 7, 2) := by decide +kernel
theorem d_Mo_resultAt_46 : decode b_Mo_resultAt 46 = .ok (.aload_n 0, 1) := by decide +kernel
theorem d_Mo_resultAt_47 : decode b_Mo_resultAt 47 = .ok (.iload_n 1, 1) := by decide +kernel
theorem d_Mo_resultAt_48 : decode b_Mo_resultAt 48 = .ok (.iload_n 2, 1) := by decide +kernel
theorem d_Mo_resultAt_49 : decode b_Mo_resultAt 49 = .ok (.iload 6, 2) := by decide +kernel
theorem d_Mo_resultAt_51 : decode b_Mo_resultAt 51 = .ok (.ifCond .eq 17, 3) := by decide +kernel
theorem d_Mo_resultAt_54 : decode b_Mo_resultAt 54 = .ok (.aload_n 0, 1) := by decide +kernel
theorem d_Mo_resultAt_55 : decode b_Mo_resultAt 55 = .ok (.getfield 56, 3) := by decide +kernel
theorem d_Mo_resultAt_58 : decode b_Mo_resultAt 58 = .ok (.iload 7, 2) := by decide +kernel
theorem d_Mo_resultAt_60 : decode b_Mo_resultAt 60 = .ok (.baload, 1) := by decide +kernel
theorem d_Mo_resultAt_61 : decode b_Mo_resultAt 61 = .ok (.ifCond .ne 7, 3) := by decide +kernel
theorem d_Mo_resultAt_64 : decode b_Mo_resultAt 64 = .ok (.iconst 1, 1) := by decide +kernel
theorem d_Mo_resultAt_65 : decode b_Mo_resultAt 65 = .ok (.goto 4, 3) := by decide +kernel
theorem d_Mo_resultAt_68 : decode b_Mo_resultAt 68 = .ok (.iconst 0, 1) := by decide +kernel
theorem d_Mo_resultAt_69 : decode b_Mo_resultAt 69 = .ok (.iload 6, 2) := by decide +kernel
theorem d_Mo_resultAt_71 : decode b_Mo_resultAt 71 = .ok (.ifCond .eq 13, 3) := by decide +kernel
theorem d_Mo_resultAt_74 : decode b_Mo_resultAt 74 = .ok (.aload_n 0, 1) := by decide +kernel
theorem d_Mo_resultAt_75 : decode b_Mo_resultAt 75 = .ok (.getfield 53, 3) := by decide +kernel
theorem d_Mo_resultAt_78 : decode b_Mo_resultAt 78 = .ok (.iload 7, 2) := by decide +kernel
theorem d_Mo_resultAt_80 : decode b_Mo_resultAt 80 = .ok (.iaload, 1) := by decide +kernel
theorem d_Mo_resultAt_81 : decode b_Mo_resultAt 81 = .ok (.goto 4, 3) := by decide +kernel
theorem d_Mo_resultAt_84 : decode b_Mo_resultAt 84 = .ok (.iconst 0, 1) := by decide +kernel
theorem d_Mo_resultAt_85 : decode b_Mo_resultAt 85 = .ok (.invokevirtual 199, 3) := by decide +kernel
theorem d_Mo_resultAt_88 : decode b_Mo_resultAt 88 = .ok (.return_, 1) := by decide +kernel
theorem d_Mo_rank_0 : decode b_Mo_rank 0 = .ok (.iconst 0, 1) := by decide +kernel
theorem d_Mo_rank_1 : decode b_Mo_rank 1 = .ok (.istore 5, 2) := by decide +kernel
theorem d_Mo_rank_3 : decode b_Mo_rank 3 = .ok (.iload_n 2, 1) := by decide +kernel
theorem d_Mo_rank_4 : decode b_Mo_rank 4 = .ok (.istore 6, 2) := by decide +kernel
theorem d_Mo_rank_6 : decode b_Mo_rank 6 = .ok (.iload 6, 2) := by decide +kernel
theorem d_Mo_rank_8 : decode b_Mo_rank 8 = .ok (.iload_n 3, 1) := by decide +kernel
theorem d_Mo_rank_9 : decode b_Mo_rank 9 = .ok (.if_icmp .ge 110, 3) := by decide +kernel
theorem d_Mo_rank_12 : decode b_Mo_rank 12 = .ok (.aload_n 0, 1) := by decide +kernel
theorem d_Mo_rank_13 : decode b_Mo_rank 13 = .ok (.aload_n 0, 1) := by decide +kernel
theorem d_Mo_rank_14 : decode b_Mo_rank 14 = .ok (.getfield 65, 3) := by decide +kernel
theorem d_Mo_rank_17 : decode b_Mo_rank 17 = .ok (.iload 6, 2) := by decide +kernel
theorem d_Mo_rank_19 : decode b_Mo_rank 19 = .ok (.iaload, 1) := by decide +kernel
theorem d_Mo_rank_20 : decode b_Mo_rank 20 = .ok (.aload_n 0, 1) := by decide +kernel
theorem d_Mo_rank_21 : decode b_Mo_rank 21 = .ok (.getfield 65, 3) := by decide +kernel
theorem d_Mo_rank_24 : decode b_Mo_rank 24 = .ok (.iload_n 3, 1) := by decide +kernel
theorem d_Mo_rank_25 : decode b_Mo_rank 25 = .ok (.iaload, 1) := by decide +kernel
theorem d_Mo_rank_26 : decode b_Mo_rank 26 = .ok (.aload_n 0, 1) := by decide +kernel
theorem d_Mo_rank_27 : decode b_Mo_rank 27 = .ok (.getfield 34, 3) := by decide +kernel
theorem d_Mo_rank_30 : decode b_Mo_rank 30 = .ok (.iload_n 1, 1) := by decide +kernel
theorem d_Mo_rank_31 : decode b_Mo_rank 31 = .ok (.iaload, 1) := by decide +kernel
theorem d_Mo_rank_32 : decode b_Mo_rank 32 = .ok (.invokevirtual 192, 3) := by decide +kernel
theorem d_Mo_rank_35 : decode b_Mo_rank 35 = .ok (.ifCond .ne 7, 3) := by decide +kernel
theorem d_Mo_rank_38 : decode b_Mo_rank 38 = .ok (.iconst 1, 1) := by decide +kernel
theorem d_Mo_rank_39 : decode b_Mo_rank 39 = .ok (.goto 4, 3) := by decide +kernel
theorem d_Mo_rank_42 : decode b_Mo_rank 42 = .ok (.iconst 0, 1) := by decide +kernel
theorem d_Mo_rank_43 : decode b_Mo_rank 43 = .ok (.istore 7, 2) := by decide +kernel
theorem d_Mo_rank_45 : decode b_Mo_rank 45 = .ok (.iload 6, 2) := by decide +kernel
theorem d_Mo_rank_47 : decode b_Mo_rank 47 = .ok (.iload_n 2, 1) := by decide +kernel
theorem d_Mo_rank_48 : decode b_Mo_rank 48 = .ok (.if_icmp .eq 32, 3) := by decide +kernel
theorem d_Mo_rank_51 : decode b_Mo_rank 51 = .ok (.aload_n 0, 1) := by decide +kernel
theorem d_Mo_rank_52 : decode b_Mo_rank 52 = .ok (.aload_n 0, 1) := by decide +kernel
theorem d_Mo_rank_53 : decode b_Mo_rank 53 = .ok (.getfield 65, 3) := by decide +kernel
theorem d_Mo_rank_56 : decode b_Mo_rank 56 = .ok (.iload 6, 2) := by decide +kernel
theorem d_Mo_rank_58 : decode b_Mo_rank 58 = .ok (.iconst 1, 1) := by decide +kernel
theorem d_Mo_rank_59 : decode b_Mo_rank 59 = .ok (.isub, 1) := by decide +kernel
theorem d_Mo_rank_60 : decode b_Mo_rank 60 = .ok (.iaload, 1) := by decide +kernel
theorem d_Mo_rank_61 : decode b_Mo_rank 61 = .ok (.aload_n 0, 1) := by decide +kernel
theorem d_Mo_rank_62 : decode b_Mo_rank 62 = .ok (.getfield 65, 3) := by decide +kernel
theorem d_Mo_rank_65 : decode b_Mo_rank 65 = .ok (.iload 6, 2) := by decide +kernel
theorem d_Mo_rank_67 : decode b_Mo_rank 67 = .ok (.iaload, 1) := by decide +kernel
theorem d_Mo_rank_68 : decode b_Mo_rank 68 = .ok (.aload_n 0, 1) := by decide +kernel
theorem d_Mo_rank_69 : decode b_Mo_rank 69 = .ok (.getfield 34, 3) := by decide +kernel
theorem d_Mo_rank_72 : decode b_Mo_rank 72 = .ok (.iload_n 1, 1) := by decide +kernel
theorem d_Mo_rank_73 : decode b_Mo_rank 73 = .ok (.iaload, 1) := by decide +kernel
theorem d_Mo_rank_74 : decode b_Mo_rank 74 = .ok (.invokevirtual 192, 3) := by decide +kernel
theorem d_Mo_rank_77 : decode b_Mo_rank 77 = .ok (.ifCond .ne 7, 3) := by decide +kernel
theorem d_Mo_rank_80 : decode b_Mo_rank 80 = .ok (.iconst 1, 1) := by decide +kernel
theorem d_Mo_rank_81 : decode b_Mo_rank 81 = .ok (.goto 4, 3) := by decide +kernel
theorem d_Mo_rank_84 : decode b_Mo_rank 84 = .ok (.iconst 0, 1) := by decide +kernel
theorem d_Mo_rank_85 : decode b_Mo_rank 85 = .ok (.istore 8, 2) := by decide +kernel
theorem d_Mo_rank_87 : decode b_Mo_rank 87 = .ok (.iload 7, 2) := by decide +kernel
theorem d_Mo_rank_89 : decode b_Mo_rank 89 = .ok (.ifCond .eq 20, 3) := by decide +kernel
theorem d_Mo_rank_92 : decode b_Mo_rank 92 = .ok (.iload 4, 2) := by decide +kernel
theorem d_Mo_rank_94 : decode b_Mo_rank 94 = .ok (.ifCond .ne 8, 3) := by decide +kernel
theorem d_Mo_rank_97 : decode b_Mo_rank 97 = .ok (.iload 8, 2) := by decide +kernel
theorem d_Mo_rank_99 : decode b_Mo_rank 99 = .ok (.ifCond .eq 10, 3) := by decide +kernel
theorem d_Mo_rank_102 : decode b_Mo_rank 102 = .ok (.iload 5, 2) := by decide +kernel
theorem d_Mo_rank_104 : decode b_Mo_rank 104 = .ok (.iconst 1, 1) := by decide +kernel
theorem d_Mo_rank_105 : decode b_Mo_rank 105 = .ok (.iadd, 1) := by decide +kernel
theorem d_Mo_rank_106 : decode b_Mo_rank 106 = .ok (.goto 5, 3) := by decide +kernel
theorem d_Mo_rank_109 : decode b_Mo_rank 109 = .ok (.iload 5, 2) := by decide +kernel
theorem d_Mo_rank_111 : decode b_Mo_rank 111 = .ok (.istore 5, 2) := by decide +kernel
theorem d_Mo_rank_113 : decode b_Mo_rank 113 = .ok (.iinc 6 1, 3) := by decide +kernel
theorem d_Mo_rank_116 : decode b_Mo_rank 116 = .ok (.goto (-110), 3) := by decide +kernel
theorem d_Mo_rank_119 : decode b_Mo_rank 119 = .ok (.aload_n 0, 1) := by decide +kernel
theorem d_Mo_rank_120 : decode b_Mo_rank 120 = .ok (.iload_n 1, 1) := by decide +kernel
theorem d_Mo_rank_121 : decode b_Mo_rank 121 = .ok (.iload_n 3, 1) := by decide +kernel
theorem d_Mo_rank_122 : decode b_Mo_rank 122 = .ok (.iconst 1, 1) := by decide +kernel
theorem d_Mo_rank_123 : decode b_Mo_rank 123 = .ok (.iload 5, 2) := by decide +kernel
theorem d_Mo_rank_125 : decode b_Mo_rank 125 = .ok (.iconst 1, 1) := by decide +kernel
theorem d_Mo_rank_126 : decode b_Mo_rank 126 = .ok (.iadd, 1) := by decide +kernel
theorem d_Mo_rank_127 : decode b_Mo_rank 127 = .ok (.invokevirtual 199, 3) := by decide +kernel
theorem d_Mo_rank_130 : decode b_Mo_rank 130 = .ok (.return_, 1) := by decide +kernel
theorem d_Mo_tile_0 : decode b_Mo_tile 0 = .ok (.iload_n 3, 1) := by decide +kernel
theorem d_Mo_tile_1 : decode b_Mo_tile 1 = .ok (.iload_n 2, 1) := by decide +kernel
theorem d_Mo_tile_2 : decode b_Mo_tile 2 = .ok (.isub, 1) := by decide +kernel
theorem d_Mo_tile_3 : decode b_Mo_tile 3 = .ok (.istore 5, 2) := by decide +kernel
theorem d_Mo_tile_5 : decode b_Mo_tile 5 = .ok (.aload_n 0, 1) := by decide +kernel
theorem d_Mo_tile_6 : decode b_Mo_tile 6 = .ok (.getfield 28, 3) := by decide +kernel
theorem d_Mo_tile_9 : decode b_Mo_tile 9 = .ok (.iload_n 1, 1) := by decide +kernel
theorem d_Mo_tile_10 : decode b_Mo_tile 10 = .ok (.iaload, 1) := by decide +kernel
theorem d_Mo_tile_11 : decode b_Mo_tile 11 = .ok (.istore 6, 2) := by decide +kernel
theorem d_Mo_tile_13 : decode b_Mo_tile 13 = .ok (.iconst 0, 1) := by decide +kernel
theorem d_Mo_tile_14 : decode b_Mo_tile 14 = .ok (.istore 7, 2) := by decide +kernel
theorem d_Mo_tile_16 : decode b_Mo_tile 16 = .ok (.iconst 0, 1) := by decide +kernel
theorem d_Mo_tile_17 : decode b_Mo_tile 17 = .ok (.istore 8, 2) := by decide +kernel
theorem d_Mo_tile_19 : decode b_Mo_tile 19 = .ok (.iconst 0, 1) := by decide +kernel
theorem d_Mo_tile_20 : decode b_Mo_tile 20 = .ok (.istore 9, 2) := by decide +kernel
theorem d_Mo_tile_22 : decode b_Mo_tile 22 = .ok (.iload 9, 2) := by decide +kernel
theorem d_Mo_tile_24 : decode b_Mo_tile 24 = .ok (.iload 6, 2) := by decide +kernel
theorem d_Mo_tile_26 : decode b_Mo_tile 26 = .ok (.if_icmp .ge 50, 3) := by decide +kernel
theorem d_Mo_tile_29 : decode b_Mo_tile 29 = .ok (.iload 7, 2) := by decide +kernel
theorem d_Mo_tile_31 : decode b_Mo_tile 31 = .ok (.iload 4, 2) := by decide +kernel
theorem d_Mo_tile_33 : decode b_Mo_tile 33 = .ok (.iload_n 2, 1) := by decide +kernel
theorem d_Mo_tile_34 : decode b_Mo_tile 34 = .ok (.isub, 1) := by decide +kernel
theorem d_Mo_tile_35 : decode b_Mo_tile 35 = .ok (.if_icmp .gt 41, 3) := by decide +kernel
theorem d_Mo_tile_38 : decode b_Mo_tile 38 = .ok (.iload 7, 2) := by decide +kernel
theorem d_Mo_tile_40 : decode b_Mo_tile 40 = .ok (.iload 5, 2) := by decide +kernel
theorem d_Mo_tile_42 : decode b_Mo_tile 42 = .ok (.iload 6, 2) := by decide +kernel
theorem d_Mo_tile_44 : decode b_Mo_tile 44 = .ok (.idiv, 1) := by decide +kernel
theorem d_Mo_tile_45 : decode b_Mo_tile 45 = .ok (.iload 9, 2) := by decide +kernel
theorem d_Mo_tile_47 : decode b_Mo_tile 47 = .ok (.iload 5, 2) := by decide +kernel
theorem d_Mo_tile_49 : decode b_Mo_tile 49 = .ok (.iload 6, 2) := by decide +kernel
theorem d_Mo_tile_51 : decode b_Mo_tile 51 = .ok (.irem, 1) := by decide +kernel
theorem d_Mo_tile_52 : decode b_Mo_tile 52 = .ok (.if_icmp .ge 7, 3) := by decide +kernel
theorem d_Mo_tile_55 : decode b_Mo_tile 55 = .ok (.iconst 1, 1) := by decide +kernel
theorem d_Mo_tile_56 : decode b_Mo_tile 56 = .ok (.goto 4, 3) := by decide +kernel
theorem d_Mo_tile_59 : decode b_Mo_tile 59 = .ok (.iconst 0, 1) := by decide +kernel
theorem d_Mo_tile_60 : decode b_Mo_tile 60 = .ok (.iadd, 1) := by decide +kernel
theorem d_Mo_tile_61 : decode b_Mo_tile 61 = .ok (.iadd, 1) := by decide +kernel
theorem d_Mo_tile_62 : decode b_Mo_tile 62 = .ok (.istore 7, 2) := by decide +kernel
theorem d_Mo_tile_64 : decode b_Mo_tile 64 = .ok (.iload 9, 2) := by decide +kernel
theorem d_Mo_tile_66 : decode b_Mo_tile 66 = .ok (.iconst 1, 1) := by decide +kernel
theorem d_Mo_tile_67 : decode b_Mo_tile 67 = .ok (.iadd, 1) := by decide +kernel
theorem d_Mo_tile_68 : decode b_Mo_tile 68 = .ok (.istore 8, 2) := by decide +kernel
theorem d_Mo_tile_70 : decode b_Mo_tile 70 = .ok (.iinc 9 1, 3) := by decide +kernel
theorem d_Mo_tile_73 : decode b_Mo_tile 73 = .ok (.goto (-51), 3) := by decide +kernel
theorem d_Mo_tile_76 : decode b_Mo_tile 76 = .ok (.aload_n 0, 1) := by decide +kernel
theorem d_Mo_tile_77 : decode b_Mo_tile 77 = .ok (.iload_n 1, 1) := by decide +kernel
theorem d_Mo_tile_78 : decode b_Mo_tile 78 = .ok (.iload 4, 2) := by decide +kernel
theorem d_Mo_tile_80 : decode b_Mo_tile 80 = .ok (.iconst 1, 1) := by decide +kernel
theorem d_Mo_tile_81 : decode b_Mo_tile 81 = .ok (.iload 8, 2) := by decide +kernel
theorem d_Mo_tile_83 : decode b_Mo_tile 83 = .ok (.invokevirtual 199, 3) := by decide +kernel
theorem d_Mo_tile_86 : decode b_Mo_tile 86 = .ok (.return_, 1) := by decide +kernel
theorem d_Mo_inFrame_0 : decode b_Mo_inFrame 0 = .ok (.aload_n 0, 1) := by decide +kernel
theorem d_Mo_inFrame_1 : decode b_Mo_inFrame 1 = .ok (.getfield 44, 3) := by decide +kernel
theorem d_Mo_inFrame_4 : decode b_Mo_inFrame 4 = .ok (.iload_n 1, 1) := by decide +kernel
theorem d_Mo_inFrame_5 : decode b_Mo_inFrame 5 = .ok (.iaload, 1) := by decide +kernel
theorem d_Mo_inFrame_6 : decode b_Mo_inFrame 6 = .ok (.istore 5, 2) := by decide +kernel
theorem d_Mo_inFrame_8 : decode b_Mo_inFrame 8 = .ok (.aload_n 0, 1) := by decide +kernel
theorem d_Mo_inFrame_9 : decode b_Mo_inFrame 9 = .ok (.getfield 47, 3) := by decide +kernel
theorem d_Mo_inFrame_12 : decode b_Mo_inFrame 12 = .ok (.iload_n 1, 1) := by decide +kernel
theorem d_Mo_inFrame_13 : decode b_Mo_inFrame 13 = .ok (.iaload, 1) := by decide +kernel
theorem d_Mo_inFrame_14 : decode b_Mo_inFrame 14 = .ok (.istore 6, 2) := by decide +kernel
theorem d_Mo_inFrame_16 : decode b_Mo_inFrame 16 = .ok (.aload_n 0, 1) := by decide +kernel
theorem d_Mo_inFrame_17 : decode b_Mo_inFrame 17 = .ok (.getfield 41, 3) := by decide +kernel
theorem d_Mo_inFrame_20 : decode b_Mo_inFrame 20 = .ok (.iload_n 1, 1) := by decide +kernel
theorem d_Mo_inFrame_21 : decode b_Mo_inFrame 21 = .ok (.baload, 1) := by decide +kernel
theorem d_Mo_inFrame_22 : decode b_Mo_inFrame 22 = .ok (.ifCond .ne 41, 3) := by decide +kernel
theorem d_Mo_inFrame_25 : decode b_Mo_inFrame 25 = .ok (.iload 5, 2) := by decide +kernel
theorem d_Mo_inFrame_27 : decode b_Mo_inFrame 27 = .ok (.bipush (-10), 2) := by decide +kernel
theorem d_Mo_inFrame_29 : decode b_Mo_inFrame 29 = .ok (.if_icmp .eq 12, 3) := by decide +kernel
theorem d_Mo_inFrame_32 : decode b_Mo_inFrame 32 = .ok (.iload 4, 2) := by decide +kernel
theorem d_Mo_inFrame_34 : decode b_Mo_inFrame 34 = .ok (.iload_n 3, 1) := by decide +kernel
theorem d_Mo_inFrame_35 : decode b_Mo_inFrame 35 = .ok (.iload 5, 2) := by decide +kernel
theorem d_Mo_inFrame_37 : decode b_Mo_inFrame 37 = .ok (.iadd, 1) := by decide +kernel
theorem d_Mo_inFrame_38 : decode b_Mo_inFrame 38 = .ok (.if_icmp .lt 23, 3) := by decide +kernel
theorem d_Mo_inFrame_41 : decode b_Mo_inFrame 41 = .ok (.iload 6, 2) := by decide +kernel
theorem d_Mo_inFrame_43 : decode b_Mo_inFrame 43 = .ok (.bipush 10, 2) := by decide +kernel
theorem d_Mo_inFrame_45 : decode b_Mo_inFrame 45 = .ok (.if_icmp .eq 12, 3) := by decide +kernel
theorem d_Mo_inFrame_48 : decode b_Mo_inFrame 48 = .ok (.iload 4, 2) := by decide +kernel
theorem d_Mo_inFrame_50 : decode b_Mo_inFrame 50 = .ok (.iload_n 3, 1) := by decide +kernel
theorem d_Mo_inFrame_51 : decode b_Mo_inFrame 51 = .ok (.iload 6, 2) := by decide +kernel
theorem d_Mo_inFrame_53 : decode b_Mo_inFrame 53 = .ok (.iadd, 1) := by decide +kernel
theorem d_Mo_inFrame_54 : decode b_Mo_inFrame 54 = .ok (.if_icmp .gt 7, 3) := by decide +kernel
theorem d_Mo_inFrame_57 : decode b_Mo_inFrame 57 = .ok (.iconst 1, 1) := by decide +kernel
theorem d_Mo_inFrame_58 : decode b_Mo_inFrame 58 = .ok (.goto 4, 3) := by decide +kernel
theorem d_Mo_inFrame_61 : decode b_Mo_inFrame 61 = .ok (.iconst 0, 1) := by decide +kernel
theorem d_Mo_inFrame_62 : decode b_Mo_inFrame 62 = .ok (.ireturn, 1) := by decide +kernel
theorem d_Mo_inFrame_63 : decode b_Mo_inFrame 63 = .ok (.bipush 9, 2) := by decide +kernel
theorem d_Mo_inFrame_65 : decode b_Mo_inFrame 65 = .ok (.aload_n 0, 1) := by decide +kernel
theorem d_Mo_inFrame_66 : decode b_Mo_inFrame 66 = .ok (.getfield 65, 3) := by decide +kernel
theorem d_Mo_inFrame_69 : decode b_Mo_inFrame 69 = .ok (.iload_n 3, 1) := by decide +kernel
theorem d_Mo_inFrame_70 : decode b_Mo_inFrame 70 = .ok (.iaload, 1) := by decide +kernel
theorem d_Mo_inFrame_71 : decode b_Mo_inFrame 71 = .ok (.imul, 1) := by decide +kernel
theorem d_Mo_inFrame_72 : decode b_Mo_inFrame 72 = .ok (.aload_n 0, 1) := by decide +kernel
theorem d_Mo_inFrame_73 : decode b_Mo_inFrame 73 = .ok (.getfield 34, 3) := by decide +kernel
theorem d_Mo_inFrame_76 : decode b_Mo_inFrame 76 = .ok (.iload_n 1, 1) := by decide +kernel
theorem d_Mo_inFrame_77 : decode b_Mo_inFrame 77 = .ok (.iaload, 1) := by decide +kernel
theorem d_Mo_inFrame_78 : decode b_Mo_inFrame 78 = .ok (.iadd, 1) := by decide +kernel
theorem d_Mo_inFrame_79 : decode b_Mo_inFrame 79 = .ok (.istore 7, 2) := by decide +kernel
theorem d_Mo_inFrame_81 : decode b_Mo_inFrame 81 = .ok (.bipush 9, 2) := by decide +kernel
theorem d_Mo_inFrame_83 : decode b_Mo_inFrame 83 = .ok (.aload_n 0, 1) := by decide +kernel
theorem d_Mo_inFrame_84 : decode b_Mo_inFrame 84 = .ok (.getfield 65, 3) := by decide +kernel
theorem d_Mo_inFrame_87 : decode b_Mo_inFrame 87 = .ok (.iload 4, 2) := by decide +kernel
theorem d_Mo_inFrame_89 : decode b_Mo_inFrame 89 = .ok (.iaload, 1) := by decide +kernel
theorem d_Mo_inFrame_90 : decode b_Mo_inFrame 90 = .ok (.imul, 1) := by decide +kernel
theorem d_Mo_inFrame_91 : decode b_Mo_inFrame 91 = .ok (.aload_n 0, 1) := by decide +kernel
theorem d_Mo_inFrame_92 : decode b_Mo_inFrame 92 = .ok (.getfield 34, 3) := by decide +kernel
theorem d_Mo_inFrame_95 : decode b_Mo_inFrame 95 = .ok (.iload_n 1, 1) := by decide +kernel
theorem d_Mo_inFrame_96 : decode b_Mo_inFrame 96 = .ok (.iaload, 1) := by decide +kernel
theorem d_Mo_inFrame_97 : decode b_Mo_inFrame 97 = .ok (.iadd, 1) := by decide +kernel
theorem d_Mo_inFrame_98 : decode b_Mo_inFrame 98 = .ok (.istore 8, 2) := by decide +kernel
theorem d_Mo_inFrame_100 : decode b_Mo_inFrame 100 = .ok (.aload_n 0, 1) := by decide +kernel
theorem d_Mo_inFrame_101 : decode b_Mo_inFrame 101 = .ok (.getfield 56, 3) := by decide +kernel
theorem d_Mo_inFrame_104 : decode b_Mo_inFrame 104 = .ok (.iload 7, 2) := by decide +kernel
theorem d_Mo_inFrame_106 : decode b_Mo_inFrame 106 = .ok (.baload, 1) := by decide +kernel
theorem d_Mo_inFrame_107 : decode b_Mo_inFrame 107 = .ok (.ifCond .ne 13, 3) := by decide +kernel
theorem d_Mo_inFrame_110 : decode b_Mo_inFrame 110 = .ok (.aload_n 0, 1) := by decide +kernel
theorem d_Mo_inFrame_111 : decode b_Mo_inFrame 111 = .ok (.getfield 56, 3) := by decide +kernel
theorem d_Mo_inFrame_114 : decode b_Mo_inFrame 114 = .ok (.iload 8, 2) := by decide +kernel
theorem d_Mo_inFrame_116 : decode b_Mo_inFrame 116 = .ok (.baload, 1) := by decide +kernel
theorem d_Mo_inFrame_117 : decode b_Mo_inFrame 117 = .ok (.ifCond .eq 29, 3) := by decide +kernel
theorem d_Mo_inFrame_120 : decode b_Mo_inFrame 120 = .ok (.aload_n 0, 1) := by decide +kernel
theorem d_Mo_inFrame_121 : decode b_Mo_inFrame 121 = .ok (.getfield 56, 3) := by decide +kernel
theorem d_Mo_inFrame_124 : decode b_Mo_inFrame 124 = .ok (.iload 7, 2) := by decide +kernel
theorem d_Mo_inFrame_126 : decode b_Mo_inFrame 126 = .ok (.baload, 1) := by decide +kernel
theorem d_Mo_inFrame_127 : decode b_Mo_inFrame 127 = .ok (.ifCond .eq 17, 3) := by decide +kernel
theorem d_Mo_inFrame_130 : decode b_Mo_inFrame 130 = .ok (.aload_n 0, 1) := by decide +kernel
theorem d_Mo_inFrame_131 : decode b_Mo_inFrame 131 = .ok (.getfield 56, 3) := by decide +kernel
theorem d_Mo_inFrame_134 : decode b_Mo_inFrame 134 = .ok (.iload 8, 2) := by decide +kernel
theorem d_Mo_inFrame_136 : decode b_Mo_inFrame 136 = .ok (.baload, 1) := by decide +kernel
theorem d_Mo_inFrame_137 : decode b_Mo_inFrame 137 = .ok (.ifCond .eq 7, 3) := by decide +kernel
theorem d_Mo_inFrame_140 : decode b_Mo_inFrame 140 = .ok (.iconst 1, 1) := by decide +kernel
theorem d_Mo_inFrame_141 : decode b_Mo_inFrame 141 = .ok (.goto 4, 3) := by decide +kernel
theorem d_Mo_inFrame_144 : decode b_Mo_inFrame 144 = .ok (.iconst 0, 1) := by decide +kernel
theorem d_Mo_inFrame_145 : decode b_Mo_inFrame 145 = .ok (.ireturn, 1) := by decide +kernel
theorem d_Mo_inFrame_146 : decode b_Mo_inFrame 146 = .ok (.aload_n 0, 1) := by decide +kernel
theorem d_Mo_inFrame_147 : decode b_Mo_inFrame 147 = .ok (.getfield 53, 3) := by decide +kernel
theorem d_Mo_inFrame_150 : decode b_Mo_inFrame 150 = .ok (.iload 8, 2) := by decide +kernel
theorem d_Mo_inFrame_152 : decode b_Mo_inFrame 152 = .ok (.iaload, 1) := by decide +kernel
theorem d_Mo_inFrame_153 : decode b_Mo_inFrame 153 = .ok (.i2l, 1) := by decide +kernel
theorem d_Mo_inFrame_154 : decode b_Mo_inFrame 154 = .ok (.aload_n 0, 1) := by decide +kernel
theorem d_Mo_inFrame_155 : decode b_Mo_inFrame 155 = .ok (.getfield 53, 3) := by decide +kernel
theorem d_Mo_inFrame_158 : decode b_Mo_inFrame 158 = .ok (.iload 7, 2) := by decide +kernel
theorem d_Mo_inFrame_160 : decode b_Mo_inFrame 160 = .ok (.iaload, 1) := by decide +kernel
theorem d_Mo_inFrame_161 : decode b_Mo_inFrame 161 = .ok (.i2l, 1) := by decide +kernel
theorem d_Mo_inFrame_162 : decode b_Mo_inFrame 162 = .ok (.lsub, 1) := by decide +kernel
theorem d_Mo_inFrame_163 : decode b_Mo_inFrame 163 = .ok (.lstore 9, 2) := by decide +kernel
theorem d_Mo_inFrame_165 : decode b_Mo_inFrame 165 = .ok (.aload_n 0, 1) := by decide +kernel
theorem d_Mo_inFrame_166 : decode b_Mo_inFrame 166 = .ok (.getfield 37, 3) := by decide +kernel
theorem d_Mo_inFrame_169 : decode b_Mo_inFrame 169 = .ok (.iload_n 1, 1) := by decide +kernel
theorem d_Mo_inFrame_170 : decode b_Mo_inFrame 170 = .ok (.baload, 1) := by decide +kernel
theorem d_Mo_inFrame_171 : decode b_Mo_inFrame 171 = .ok (.ifCond .eq 9, 3) := by decide +kernel
theorem d_Mo_inFrame_174 : decode b_Mo_inFrame 174 = .ok (.lload 9, 2) := by decide +kernel
theorem d_Mo_inFrame_176 : decode b_Mo_inFrame 176 = .ok (.lneg, 1) := by decide +kernel
theorem d_Mo_inFrame_177 : decode b_Mo_inFrame 177 = .ok (.goto 5, 3) := by decide +kernel
theorem d_Mo_inFrame_180 : decode b_Mo_inFrame 180 = .ok (.lload 9, 2) := by decide +kernel
theorem d_Mo_inFrame_182 : decode b_Mo_inFrame 182 = .ok (.lstore 9, 2) := by decide +kernel
theorem d_Mo_inFrame_184 : decode b_Mo_inFrame 184 = .ok (.iload 5, 2) := by decide +kernel
theorem d_Mo_inFrame_186 : decode b_Mo_inFrame 186 = .ok (.bipush (-10), 2) := by decide +kernel
theorem d_Mo_inFrame_188 : decode b_Mo_inFrame 188 = .ok (.if_icmp .eq 12, 3) := by decide +kernel
theorem d_Mo_inFrame_191 : decode b_Mo_inFrame 191 = .ok (.lload 9, 2) := by decide +kernel
theorem d_Mo_inFrame_193 : decode b_Mo_inFrame 193 = .ok (.iload 5, 2) := by decide +kernel
theorem d_Mo_inFrame_195 : decode b_Mo_inFrame 195 = .ok (.i2l, 1) := by decide +kernel
theorem d_Mo_inFrame_196 : decode b_Mo_inFrame 196 = .ok (.lcmp, 1) := by decide +kernel
theorem d_Mo_inFrame_197 : decode b_Mo_inFrame 197 = .ok (.ifCond .lt 23, 3) := by decide +kernel
theorem d_Mo_inFrame_200 : decode b_Mo_inFrame 200 = .ok (.iload 6, 2) := by decide +kernel
theorem d_Mo_inFrame_202 : decode b_Mo_inFrame 202 = .ok (.bipush 10, 2) := by decide +kernel
theorem d_Mo_inFrame_204 : decode b_Mo_inFrame 204 = .ok (.if_icmp .eq 12, 3) := by decide +kernel
theorem d_Mo_inFrame_207 : decode b_Mo_inFrame 207 = .ok (.lload 9, 2) := by decide +kernel
theorem d_Mo_inFrame_209 : decode b_Mo_inFrame 209 = .ok (.iload 6, 2) := by decide +kernel
theorem d_Mo_inFrame_211 : decode b_Mo_inFrame 211 = .ok (.i2l, 1) := by decide +kernel
theorem d_Mo_inFrame_212 : decode b_Mo_inFrame 212 = .ok (.lcmp, 1) := by decide +kernel
theorem d_Mo_inFrame_213 : decode b_Mo_inFrame 213 = .ok (.ifCond .gt 7, 3) := by decide +kernel
theorem d_Mo_inFrame_216 : decode b_Mo_inFrame 216 = .ok (.iconst 1, 1) := by decide +kernel
theorem d_Mo_inFrame_217 : decode b_Mo_inFrame 217 = .ok (.goto 4, 3) := by decide +kernel
theorem d_Mo_inFrame_220 : decode b_Mo_inFrame 220 = .ok (.iconst 0, 1) := by decide +kernel
theorem d_Mo_inFrame_221 : decode b_Mo_inFrame 221 = .ok (.ireturn, 1) := by decide +kernel
theorem d_Mo_gather_0 : decode b_Mo_gather 0 = .ok (.aload_n 0, 1) := by decide +kernel
theorem d_Mo_gather_1 : decode b_Mo_gather 1 = .ok (.iconst (-1), 1) := by decide +kernel
theorem d_Mo_gather_2 : decode b_Mo_gather 2 = .ok (.putfield 217, 3) := by decide +kernel
theorem d_Mo_gather_5 : decode b_Mo_gather 5 = .ok (.aload_n 0, 1) := by decide +kernel
theorem d_Mo_gather_6 : decode b_Mo_gather 6 = .ok (.iconst (-1), 1) := by decide +kernel
theorem d_Mo_gather_7 : decode b_Mo_gather 7 = .ok (.putfield 220, 3) := by decide +kernel
theorem d_Mo_gather_10 : decode b_Mo_gather 10 = .ok (.aload_n 0, 1) := by decide +kernel
theorem d_Mo_gather_11 : decode b_Mo_gather 11 = .ok (.iconst 0, 1) := by decide +kernel
theorem d_Mo_gather_12 : decode b_Mo_gather 12 = .ok (.putfield 223, 3) := by decide +kernel
theorem d_Mo_gather_15 : decode b_Mo_gather 15 = .ok (.aload_n 0, 1) := by decide +kernel
theorem d_Mo_gather_16 : decode b_Mo_gather 16 = .ok (.lconst 0, 1) := by decide +kernel
theorem d_Mo_gather_17 : decode b_Mo_gather 17 = .ok (.putfield 226, 3) := by decide +kernel
theorem d_Mo_gather_20 : decode b_Mo_gather 20 = .ok (.iload_n 2, 1) := by decide +kernel
theorem d_Mo_gather_21 : decode b_Mo_gather 21 = .ok (.istore 5, 2) := by decide +kernel
theorem d_Mo_gather_23 : decode b_Mo_gather 23 = .ok (.iload 5, 2) := by decide +kernel
theorem d_Mo_gather_25 : decode b_Mo_gather 25 = .ok (.iload_n 3, 1) := by decide +kernel
theorem d_Mo_gather_26 : decode b_Mo_gather 26 = .ok (.if_icmp .ge 166, 3) := by decide +kernel
theorem d_Mo_gather_29 : decode b_Mo_gather 29 = .ok (.aload_n 0, 1) := by decide +kernel
theorem d_Mo_gather_30 : decode b_Mo_gather 30 = .ok (.iload_n 1, 1) := by decide +kernel
theorem d_Mo_gather_31 : decode b_Mo_gather 31 = .ok (.iload_n 2, 1) := by decide +kernel
theorem d_Mo_gather_32 : decode b_Mo_gather 32 = .ok (.iload 4, 2) := by decide +kernel
theorem d_Mo_gather_34 : decode b_Mo_gather 34 = .ok (.iload 5, 2) := by decide +kernel
theorem d_Mo_gather_36 : decode b_Mo_gather 36 = .ok (.invokevirtual 230, 3) := by decide +kernel
theorem d_Mo_gather_39 : decode b_Mo_gather 39 = .ok (.ifCond .eq 147, 3) := by decide +kernel
theorem d_Mo_gather_42 : decode b_Mo_gather 42 = .ok (.bipush 9, 2) := by decide +kernel
theorem d_Mo_gather_44 : decode b_Mo_gather 44 = .ok (.aload_n 0, 1) := by decide +kernel
theorem d_Mo_gather_45 : decode b_Mo_gather 45 = .ok (.getfield 65, 3) := by decide +kernel
theorem d_Mo_gather_48 : decode b_Mo_gather 48 = .ok (.iload 5, 2) := by decide +kernel
theorem d_Mo_gather_50 : decode b_Mo_gather 50 = .ok (.iaload, 1) := by decide +kernel
theorem d_Mo_gather_51 : decode b_Mo_gather 51 = .ok (.imul, 1) := by decide +kernel
theorem d_Mo_gather_52 : decode b_Mo_gather 52 = .ok (.aload_n 0, 1) := by decide +kernel
theorem d_Mo_gather_53 : decode b_Mo_gather 53 = .ok (.getfield 25, 3) := by decide +kernel
theorem d_Mo_gather_56 : decode b_Mo_gather 56 = .ok (.iload_n 1, 1) := by decide +kernel
theorem d_Mo_gather_57 : decode b_Mo_gather 57 = .ok (.iaload, 1) := by decide +kernel
theorem d_Mo_gather_58 : decode b_Mo_gather 58 = .ok (.iadd, 1) := by decide +kernel
theorem d_Mo_gather_59 : decode b_Mo_gather 59 = .ok (.istore 6, 2) := by decide +kernel
theorem d_Mo_gather_61 : decode b_Mo_gather 61 = .ok (.aload_n 0, 1) := by decide +kernel
theorem d_Mo_gather_62 : decode b_Mo_gather 62 = .ok (.getfield 53, 3) := by decide +kernel
theorem d_Mo_gather_65 : decode b_Mo_gather 65 = .ok (.iload 6, 2) := by decide +kernel
theorem d_Mo_gather_67 : decode b_Mo_gather 67 = .ok (.iaload, 1) := by decide +kernel
theorem d_Mo_gather_68 : decode b_Mo_gather 68 = .ok (.istore 7, 2) := by decide +kernel
theorem d_Mo_gather_70 : decode b_Mo_gather 70 = .ok (.aload_n 0, 1) := by decide +kernel
theorem d_Mo_gather_71 : decode b_Mo_gather 71 = .ok (.aload_n 0, 1) := by decide +kernel
theorem d_Mo_gather_72 : decode b_Mo_gather 72 = .ok (.getfield 217, 3) := by decide +kernel
theorem d_Mo_gather_75 : decode b_Mo_gather 75 = .ok (.ifCond .ge 8, 3) := by decide +kernel
theorem d_Mo_gather_78 : decode b_Mo_gather 78 = .ok (.iload 5, 2) := by decide +kernel
theorem d_Mo_gather_80 : decode b_Mo_gather 80 = .ok (.goto 7, 3) := by decide +kernel
theorem d_Mo_gather_83 : decode b_Mo_gather 83 = .ok (.aload_n 0, 1) := by decide +kernel
theorem d_Mo_gather_84 : decode b_Mo_gather 84 = .ok (.getfield 217, 3) := by decide +kernel
theorem d_Mo_gather_87 : decode b_Mo_gather 87 = .ok (.putfield 217, 3) := by decide +kernel
theorem d_Mo_gather_90 : decode b_Mo_gather 90 = .ok (.aload_n 0, 1) := by decide +kernel
theorem d_Mo_gather_91 : decode b_Mo_gather 91 = .ok (.iload 5, 2) := by decide +kernel
theorem d_Mo_gather_93 : decode b_Mo_gather 93 = .ok (.putfield 220, 3) := by decide +kernel
theorem d_Mo_gather_96 : decode b_Mo_gather 96 = .ok (.aload_n 0, 1) := by decide +kernel
theorem d_Mo_gather_97 : decode b_Mo_gather 97 = .ok (.getfield 56, 3) := by decide +kernel
theorem d_Mo_gather_100 : decode b_Mo_gather 100 = .ok (.iload 6, 2) := by decide +kernel
theorem d_Mo_gather_102 : decode b_Mo_gather 102 = .ok (.baload, 1) := by decide +kernel
theorem d_Mo_gather_103 : decode b_Mo_gather 103 = .ok (.ifCond .ne 83, 3) := by decide +kernel
theorem d_Mo_gather_106 : decode b_Mo_gather 106 = .ok (.aload_n 0, 1) := by decide +kernel
theorem d_Mo_gather_107 : decode b_Mo_gather 107 = .ok (.aload_n 0, 1) := by decide +kernel
theorem d_Mo_gather_108 : decode b_Mo_gather 108 = .ok (.getfield 223, 3) := by decide +kernel
theorem d_Mo_gather_111 : decode b_Mo_gather 111 = .ok (.ifCond .eq 12, 3) := by decide +kernel
theorem d_Mo_gather_114 : decode b_Mo_gather 114 = .ok (.iload 7, 2) := by decide +kernel
theorem d_Mo_gather_116 : decode b_Mo_gather 116 = .ok (.aload_n 0, 1) := by decide +kernel
theorem d_Mo_gather_117 : decode b_Mo_gather 117 = .ok (.getfield 234, 3) := by decide +kernel
theorem d_Mo_gather_120 : decode b_Mo_gather 120 = .ok (.if_icmp .ge 8, 3) := by decide +kernel
theorem d_Mo_gather_123 : decode b_Mo_gather 123 = .ok (.iload 7, 2) := by decide +kernel
theorem d_Mo_gather_125 : decode b_Mo_gather 125 = .ok (.goto 7, 3) := by decide +kernel
theorem d_Mo_gather_128 : decode b_Mo_gather 128 = .ok (.aload_n 0, 1) := by decide +kernel
theorem d_Mo_gather_129 : decode b_Mo_gather 129 = .ok (.getfield 234, 3) := by decide +kernel
theorem d_Mo_gather_132 : decode b_Mo_gather 132 = .ok (.putfield 234, 3) := by decide +kernel
theorem d_Mo_gather_135 : decode b_Mo_gather 135 = .ok (.aload_n 0, 1) := by decide +kernel
theorem d_Mo_gather_136 : decode b_Mo_gather 136 = .ok (.aload_n 0, 1) := by decide +kernel
theorem d_Mo_gather_137 : decode b_Mo_gather 137 = .ok (.getfield 223, 3) := by decide +kernel
theorem d_Mo_gather_140 : decode b_Mo_gather 140 = .ok (.ifCond .eq 12, 3) := by decide +kernel
theorem d_Mo_gather_143 : decode b_Mo_gather 143 = .ok (.iload 7, 2) := by decide +kernel
theorem d_Mo_gather_145 : decode b_Mo_gather 145 = .ok (.aload_n 0, 1) := by decide +kernel
theorem d_Mo_gather_146 : decode b_Mo_gather 146 = .ok (.getfield 237, 3) := by decide +kernel
theorem d_Mo_gather_149 : decode b_Mo_gather 149 = .ok (.if_icmp .le 8, 3) := by decide +kernel
theorem d_Mo_gather_152 : decode b_Mo_gather 152 = .ok (.iload 7, 2) := by decide +kernel
theorem d_Mo_gather_154 : decode b_Mo_gather 154 = .ok (.goto 7, 3) := by decide +kernel
theorem d_Mo_gather_157 : decode b_Mo_gather 157 = .ok (.aload_n 0, 1) := by decide +kernel
theorem d_Mo_gather_158 : decode b_Mo_gather 158 = .ok (.getfield 237, 3) := by decide +kernel
theorem d_Mo_gather_161 : decode b_Mo_gather 161 = .ok (.putfield 237, 3) := by decide +kernel
theorem d_Mo_gather_164 : decode b_Mo_gather 164 = .ok (.aload_n 0, 1) := by decide +kernel
theorem d_Mo_gather_165 : decode b_Mo_gather 165 = .ok (.dup, 1) := by decide +kernel
theorem d_Mo_gather_166 : decode b_Mo_gather 166 = .ok (.getfield 226, 3) := by decide +kernel
theorem d_Mo_gather_169 : decode b_Mo_gather 169 = .ok (.iload 7, 2) := by decide +kernel
theorem d_Mo_gather_171 : decode b_Mo_gather 171 = .ok (.i2l, 1) := by decide +kernel
theorem d_Mo_gather_172 : decode b_Mo_gather 172 = .ok (.ladd, 1) := by decide +kernel
theorem d_Mo_gather_173 : decode b_Mo_gather 173 = .ok (.putfield 226, 3) := by decide +kernel
theorem d_Mo_gather_176 : decode b_Mo_gather 176 = .ok (.aload_n 0, 1) := by decide +kernel
theorem d_Mo_gather_177 : decode b_Mo_gather 177 = .ok (.dup, 1) := by decide +kernel
theorem d_Mo_gather_178 : decode b_Mo_gather 178 = .ok (.getfield 223, 3) := by decide +kernel
theorem d_Mo_gather_181 : decode b_Mo_gather 181 = .ok (.iconst 1, 1) := by decide +kernel
theorem d_Mo_gather_182 : decode b_Mo_gather 182 = .ok (.iadd, 1) := by decide +kernel
theorem d_Mo_gather_183 : decode b_Mo_gather 183 = .ok (.putfield 223, 3) := by decide +kernel
theorem d_Mo_gather_186 : decode b_Mo_gather 186 = .ok (.iinc 5 1, 3) := by decide +kernel
theorem d_Mo_gather_189 : decode b_Mo_gather 189 = .ok (.goto (-166), 3) := by decide +kernel
theorem d_Mo_gather_192 : decode b_Mo_gather 192 = .ok (.return_, 1) := by decide +kernel
theorem c_Mo_samePlace (l : Launch) (D : va_G) (cI cL cZ cW cR : ClassId) (o : Nat) (ϕ : Nat → Value) (a_value a_hole : Nat) (vl : Nat → Int32) (hl_ : Nat → Bool) (i j : Nat) (oo : Option Nat) (ho : ∀ q, oo = some q → q < 9) (hi : i < 60) (hj : j < 60) : Met l y_Mo_samePlace ws_Mo_samePlace rm1_30 (zPr D vwCl (zT cI cL cZ cW cR) [(o, .inr (9, [(ϕ 0), (ϕ 1), (ϕ 2), (ϕ 3), (ϕ 4), (ϕ 5), (ϕ 6), (ϕ 7), (ϕ 8), (ϕ 9), (ϕ 10), (ϕ 11), (ϕ 12), (ϕ 13), (ϕ 14), (ϕ 15), (ϕ 16), (ϕ 17), (ϕ 18), (ϕ 19), (ϕ 20), (ϕ 21), (ϕ 22), (ϕ 23), (ϕ 24), .ref a_value, .ref a_hole, (ϕ 27), (ϕ 28), (ϕ 29), (ϕ 30), (ϕ 31), (ϕ 32), (ϕ 33), (ϕ 34), (ϕ 35), (ϕ 36), (ϕ 37), (ϕ 38), (ϕ 39), (ϕ 40), (ϕ 41), (ϕ 42), (ϕ 43)])), (a_value, .inl (cI, 540, .inl vl)), (a_hole, .inl (cZ, 540, .inl (zZ hl_)))] [.ref o, .int (nI i), .int (nI j), .int (oI oo)]) (zSi (zb (pEq (mO hl_ vl oo) i j))) 0 0 (fun _ => False) := by
  cases oo with
  | none => exact c_Mo_samePlace_n l D cI cL cZ cW cR o ϕ a_value a_hole vl hl_ i j
  | some c0 =>
    have e : pEq (mO hl_ vl (some c0)) i j = decide (sgnC (hl_ (9 * i + c0)) (hl_ (9 * j + c0)) (vl (9 * i + c0)) (vl (9 * j + c0)) false = 0) := (decide_eq_decide.mpr sgn_0).symm
    rw [e]
    exact c_Mo_samePlace_s l D cI cL cZ cW cR o ϕ a_value a_hole vl hl_ i j c0 hi hj (ho c0 rfl)
set_option maxHeartbeats 4000000 in
set_option maxRecDepth 100000 in
theorem c_Mo_ordered_n (l : Launch) (D : va_G) (cI cL cZ cW cR : ClassId) (o : Nat) (ϕ : Nat → Value) (a_wPart : Nat) (po : Nat → Option Nat) (w : Nat) (hw : w < 3) : Met l y_Mo_ordered ws_Mo_ordered rm1_30 (zPr D vwCl (zT cI cL cZ cW cR) [(o, .inr (9, [(ϕ 0), (ϕ 1), (ϕ 2), (ϕ 3), (ϕ 4), (ϕ 5), (ϕ 6), (ϕ 7), (ϕ 8), (ϕ 9), (ϕ 10), (ϕ 11), (ϕ 12), .ref a_wPart, (ϕ 14), (ϕ 15), (ϕ 16), (ϕ 17), (ϕ 18), (ϕ 19), (ϕ 20), (ϕ 21), (ϕ 22), (ϕ 23), (ϕ 24), (ϕ 25), (ϕ 26), (ϕ 27), (ϕ 28), (ϕ 29), .int (-1), (ϕ 31), (ϕ 32), (ϕ 33), (ϕ 34), (ϕ 35), (ϕ 36), (ϕ 37), (ϕ 38), (ϕ 39), (ϕ 40), (ϕ 41), (ϕ 42), (ϕ 43)])), (a_wPart, .inl (cI, 3, .inl (zO po)))] [.ref o, .int (nI w)]) (zSi (zb false)) 0 0 (fun _ => False) := by
  refine zk_enterR (cc := b_Mo_ordered) (maxL := 3) (ret := some .boolean) (by decide) rfl (Nat.le_of_ble_eq_true rfl) ?_
  intro p e s m args below meth c ls Q hx hb hml hr hlk hown hts hP hK hN hl hQ
  have hl : lv_has ls 3 [(0, .ref o), (1, .int (nI w))] := hl
  refine lv_aload_n hx hb d_Mo_ordered_0 rfl (lv_at hl 0 rfl) ?_
  refine va_get (C := R_Mo) (T := F_Mo) (N := 44) hx hb hts (fun w h => List.mem_cons_of_mem _ (hin_Mo w h)) hown hK hP 0 rfl rfl 13 (by decide) (hts _ (List.mem_cons_of_mem _ fl_Mo_31)) (fun _ h => h) rfl d_Mo_ordered_1 ?_
  refine lv_iload_n hx hb d_Mo_ordered_4 rfl (lv_at hl 1 rfl) ?_
  refine zk_oald hx hb hK hP 1 0 rfl rfl (by omega) (by omega) d_Mo_ordered_5 ?_
  refine lv_if_lt (tgt := 13) hx hb d_Mo_ordered_6 rfl (fun h6 => ?_) (fun h6 => ?_)
  · skip
    refine lv_iconst (v := zb false) hx hb d_Mo_ordered_13 (by decide) ?_
    refine lv_istore_n (lv' := [(2, .int (zb false)), (0, .ref o), (1, .int (nI w))]) hx hb d_Mo_ordered_14 rfl hl (by decide) rfl (fun ls hl => ?_)
    refine lv_aload_n hx hb d_Mo_ordered_15 rfl (lv_at hl 1 rfl) ?_
    refine va_get (C := R_Mo) (T := F_Mo) (N := 44) hx hb hts (fun w h => List.mem_cons_of_mem _ (hin_Mo w h)) hown hK hP 0 rfl rfl 30 (by decide) (hts _ (List.mem_cons_of_mem _ fl_Mo_165)) (fun _ h => h) rfl d_Mo_ordered_16 ?_
    refine lv_if_lt (tgt := 41) hx hb d_Mo_ordered_19 rfl (fun _ => ?_) (fun hq => absurd hq (by decide))
    refine lv_iconst (v := zb false) hx hb d_Mo_ordered_41 (by decide) ?_
    exact zk_zretR hx hb hr hlk hQ (rfl) d_Mo_ordered_42
  · skip
    refine lv_iconst (v := zb true) hx hb d_Mo_ordered_9 (by decide) ?_
    refine lv_goto (tgt := 14) hx hb d_Mo_ordered_10 rfl ?_
    refine lv_istore_n (lv' := [(2, .int (zb true)), (0, .ref o), (1, .int (nI w))]) hx hb d_Mo_ordered_14 rfl hl (by decide) rfl (fun ls hl => ?_)
    refine lv_aload_n hx hb d_Mo_ordered_15 rfl (lv_at hl 1 rfl) ?_
    refine va_get (C := R_Mo) (T := F_Mo) (N := 44) hx hb hts (fun w h => List.mem_cons_of_mem _ (hin_Mo w h)) hown hK hP 0 rfl rfl 30 (by decide) (hts _ (List.mem_cons_of_mem _ fl_Mo_165)) (fun _ h => h) rfl d_Mo_ordered_16 ?_
    refine lv_if_lt (tgt := 41) hx hb d_Mo_ordered_19 rfl (fun _ => ?_) (fun hq => absurd hq (by decide))
    refine lv_iconst (v := zb false) hx hb d_Mo_ordered_41 (by decide) ?_
    exact zk_zretR hx hb hr hlk hQ (rfl) d_Mo_ordered_42
set_option maxHeartbeats 4000000 in
set_option maxRecDepth 100000 in
theorem c_Mo_ordered_s (l : Launch) (D : va_G) (cI cL cZ cW cR : ClassId) (o : Nat) (ϕ : Nat → Value) (a_wPart a_wOrder a_wDown a_keyColumn a_keyDown : Nat) (kn : Nat) (po : Nat → Option Nat) (oo : Nat → Option Nat) (wd : Nat → Bool) (kf : Nat → Nat) (kg : Nat → Bool) (w : Nat) (hw : w < 3) (hpo : ∀ w q, po w = some q → q < 1000) (hoo : ∀ w q, oo w = some q → q < 1000) (hkn : kn ≤ 2) : Met l y_Mo_ordered ws_Mo_ordered rm1_30 (zPr D vwCl (zT cI cL cZ cW cR) [(o, .inr (9, [(ϕ 0), (ϕ 1), (ϕ 2), (ϕ 3), (ϕ 4), (ϕ 5), (ϕ 6), (ϕ 7), (ϕ 8), (ϕ 9), (ϕ 10), (ϕ 11), (ϕ 12), .ref a_wPart, .ref a_wOrder, .ref a_wDown, (ϕ 16), (ϕ 17), (ϕ 18), (ϕ 19), (ϕ 20), (ϕ 21), (ϕ 22), (ϕ 23), (ϕ 24), (ϕ 25), (ϕ 26), (ϕ 27), (ϕ 28), (ϕ 29), .int (nI kn), .ref a_keyColumn, .ref a_keyDown, (ϕ 33), (ϕ 34), (ϕ 35), (ϕ 36), (ϕ 37), (ϕ 38), (ϕ 39), (ϕ 40), (ϕ 41), (ϕ 42), (ϕ 43)])), (a_wPart, .inl (cI, 3, .inl (zO po))), (a_wOrder, .inl (cI, 3, .inl (zO oo))), (a_wDown, .inl (cZ, 3, .inl (zZ wd))), (a_keyColumn, .inl (cI, 2, .inl (zN kf))), (a_keyDown, .inl (cZ, 2, .inl (zZ kg)))] [.ref o, .int (nI w)]) (zSi (zb (mOrdB kn kf kg (po w) (oo w) (wd w)))) 0 0 (fun _ => False) := by
  refine zk_enterR (cc := b_Mo_ordered) (maxL := 3) (ret := some .boolean) (by decide) rfl (Nat.le_of_ble_eq_true rfl) ?_
  intro p e s m args below meth c ls Q hx hb hml hr hlk hown hts hP hK hN hl hQ
  have hl : lv_has ls 3 [(0, .ref o), (1, .int (nI w))] := hl
  refine lv_aload_n hx hb d_Mo_ordered_0 rfl (lv_at hl 0 rfl) ?_
  refine va_get (C := R_Mo) (T := F_Mo) (N := 44) hx hb hts (fun w h => List.mem_cons_of_mem _ (hin_Mo w h)) hown hK hP 0 rfl rfl 13 (by decide) (hts _ (List.mem_cons_of_mem _ fl_Mo_31)) (fun _ h => h) rfl d_Mo_ordered_1 ?_
  refine lv_iload_n hx hb d_Mo_ordered_4 rfl (lv_at hl 1 rfl) ?_
  refine zk_oald hx hb hK hP 1 0 rfl rfl (by omega) (by omega) d_Mo_ordered_5 ?_
  refine lv_if_lt (tgt := 13) hx hb d_Mo_ordered_6 rfl (fun h6 => ?_) (fun h6 => ?_)
  · skip
    have e6 := oI_lt0 (hpo w) h6
    refine lv_iconst (v := zb false) hx hb d_Mo_ordered_13 (by decide) ?_
    refine lv_istore_n (lv' := [(2, .int (zb false)), (0, .ref o), (1, .int (nI w))]) hx hb d_Mo_ordered_14 rfl hl (by decide) rfl (fun ls hl => ?_)
    refine lv_aload_n hx hb d_Mo_ordered_15 rfl (lv_at hl 1 rfl) ?_
    refine va_get (C := R_Mo) (T := F_Mo) (N := 44) hx hb hts (fun w h => List.mem_cons_of_mem _ (hin_Mo w h)) hown hK hP 0 rfl rfl 30 (by decide) (hts _ (List.mem_cons_of_mem _ fl_Mo_165)) (fun _ h => h) rfl d_Mo_ordered_16 ?_
    refine zk_if_lt (tgt := 41) hx hb d_Mo_ordered_19 rfl (by omega) ?_
    refine lv_iload_n hx hb d_Mo_ordered_22 rfl (lv_at hl 0 rfl) ?_
    refine zk_ifb_eq (tgt := 43) hx hb d_Mo_ordered_23 rfl (fun _ => ?_) (fun hq => absurd hq (by decide))
    refine lv_aload_n hx hb d_Mo_ordered_43 rfl (lv_at hl 1 rfl) ?_
    refine va_get (C := R_Mo) (T := F_Mo) (N := 44) hx hb hts (fun w h => List.mem_cons_of_mem _ (hin_Mo w h)) hown hK hP 0 rfl rfl 14 (by decide) (hts _ (List.mem_cons_of_mem _ fl_Mo_34)) (fun _ h => h) rfl d_Mo_ordered_44 ?_
    refine lv_iload_n hx hb d_Mo_ordered_47 rfl (lv_at hl 2 rfl) ?_
    refine zk_oald hx hb hK hP 2 0 rfl rfl (by omega) (by omega) d_Mo_ordered_48 ?_
    refine lv_if_lt (tgt := 80) hx hb d_Mo_ordered_49 rfl (fun h49 => ?_) (fun h49 => ?_)
    · skip
      have e49 := oI_lt0 (hoo w) h49
      refine lv_iconst (v := zb true) hx hb d_Mo_ordered_80 (by decide) ?_
      refine lv_goto (tgt := 85) hx hb d_Mo_ordered_81 rfl ?_
      exact zk_zretR hx hb hr hlk hQ (congrArg zb (by first | exact ord_nn e6 e49 | exact ord_sn e6 h38 e49 | exact ord_ns e6 e49 h77 | exact ord_ss e6 h38 e49 h77)) d_Mo_ordered_85
    · skip
      obtain ⟨oj, e49⟩ := oI_ge0 h49
      refine lv_aload_n hx hb d_Mo_ordered_52 rfl (lv_at hl 1 rfl) ?_
      refine lv_iload_n hx hb d_Mo_ordered_53 rfl (lv_at hl 0 rfl) ?_
      refine zk_ifb_eq (tgt := 61) hx hb d_Mo_ordered_54 rfl (fun _ => ?_) (fun hq => absurd hq (by decide))
      refine lv_iconst (v := nI 0) hx hb d_Mo_ordered_61 (by decide) ?_
      refine lv_aload_n hx hb d_Mo_ordered_62 rfl (lv_at hl 1 rfl) ?_
      refine va_get (C := R_Mo) (T := F_Mo) (N := 44) hx hb hts (fun w h => List.mem_cons_of_mem _ (hin_Mo w h)) hown hK hP 0 rfl rfl 14 (by decide) (hts _ (List.mem_cons_of_mem _ fl_Mo_34)) (fun _ h => h) rfl d_Mo_ordered_63 ?_
      refine lv_iload_n hx hb d_Mo_ordered_66 rfl (lv_at hl 2 rfl) ?_
      refine zk_oald hx hb hK hP 2 0 rfl rfl (by omega) (by omega) d_Mo_ordered_67 ?_
      refine lv_aload_n hx hb d_Mo_ordered_68 rfl (lv_at hl 1 rfl) ?_
      refine va_get (C := R_Mo) (T := F_Mo) (N := 44) hx hb hts (fun w h => List.mem_cons_of_mem _ (hin_Mo w h)) hown hK hP 0 rfl rfl 15 (by decide) (hts _ (List.mem_cons_of_mem _ fl_Mo_37)) (fun _ h => h) rfl d_Mo_ordered_69 ?_
      refine lv_iload_n hx hb d_Mo_ordered_72 rfl (lv_at hl 2 rfl) ?_
      refine zk_bald hx hb hK hP 3 2 rfl rfl (by omega) (by omega) d_Mo_ordered_73 ?_
      have hPc := hP.sub (ws' := [(o, .inr (9, [(ϕ 0), (ϕ 1), (ϕ 2), (ϕ 3), (ϕ 4), (ϕ 5), (ϕ 6), (ϕ 7), (ϕ 8), (ϕ 9), (ϕ 10), (ϕ 11), (ϕ 12), .ref a_wPart, .ref a_wOrder, .ref a_wDown, (ϕ 16), (ϕ 17), (ϕ 18), (ϕ 19), (ϕ 20), (ϕ 21), (ϕ 22), (ϕ 23), (ϕ 24), (ϕ 25), (ϕ 26), (ϕ 27), (ϕ 28), (ϕ 29), .int (nI kn), .ref a_keyColumn, .ref a_keyDown, (ϕ 33), (ϕ 34), (ϕ 35), (ϕ 36), (ϕ 37), (ϕ 38), (ϕ 39), (ϕ 40), (ϕ 41), (ϕ 42), (ϕ 43)])), (a_keyColumn, .inl (cI, 2, .inl (zN kf))), (a_keyDown, .inl (cZ, 2, .inl (zZ kg)))]) [0, 4, 5] rfl
      refine zk_ri (va_runV (As := [.int (nI 0), .int (oI (oo w)), .int (zb (wd w))]) (rest := []) ⟨hx, hb, hml, hown, hts⟩ (c_Mo_keyIs l D cI cL cZ cW cR o (vp_V [(ϕ 0), (ϕ 1), (ϕ 2), (ϕ 3), (ϕ 4), (ϕ 5), (ϕ 6), (ϕ 7), (ϕ 8), (ϕ 9), (ϕ 10), (ϕ 11), (ϕ 12), .ref a_wPart, .ref a_wOrder, .ref a_wDown, (ϕ 16), (ϕ 17), (ϕ 18), (ϕ 19), (ϕ 20), (ϕ 21), (ϕ 22), (ϕ 23), (ϕ 24), (ϕ 25), (ϕ 26), (ϕ 27), (ϕ 28), (ϕ 29), .int (nI kn), .ref a_keyColumn, .ref a_keyDown, (ϕ 33), (ϕ 34), (ϕ 35), (ϕ 36), (ϕ 37), (ϕ 38), (ϕ 39), (ϕ 40), (ϕ 41), (ϕ 42), (ϕ 43)]) a_keyColumn a_keyDown kn kf kg 0 (oI (oo w)) (wd w) (by omega) hkn) (cwV 3 hts (zk_gV (fun _ h => List.mem_cons_of_mem _ h) ml_Mo_178 im_Mo_keyIs se_Mo_keyIs in_Mo co_Mo_keyIs) rfl rfl rfl ⟨rfl, hd_Mo_keyIs⟩ ⟨Nat.le_of_ble_eq_true rfl, Nat.le_of_ble_eq_true rfl⟩) (zk_vr (q0 := 0) hN hK hPc rfl rfl) rfl rfl hl.1 rfl (lv_room (Nat.le_of_ble_eq_true rfl)) d_Mo_ordered_74 ⟨Nat.zero_le _, Nat.zero_le _⟩) ?_
      refine zk_ifb_eq (tgt := 84) hx hb d_Mo_ordered_77 rfl (fun h77 => ?_) (fun h77 => ?_)
      · skip
        refine lv_iconst (v := zb false) hx hb d_Mo_ordered_84 (by decide) ?_
        exact zk_zretR hx hb hr hlk hQ (congrArg zb (by first | exact ord_nn e6 e49 | exact ord_sn e6 h38 e49 | exact ord_ns e6 e49 h77 | exact ord_ss e6 h38 e49 h77)) d_Mo_ordered_85
      · skip
        refine lv_iconst (v := zb true) hx hb d_Mo_ordered_80 (by decide) ?_
        refine lv_goto (tgt := 85) hx hb d_Mo_ordered_81 rfl ?_
        exact zk_zretR hx hb hr hlk hQ (congrArg zb (by first | exact ord_nn e6 e49 | exact ord_sn e6 h38 e49 | exact ord_ns e6 e49 h77 | exact ord_ss e6 h38 e49 h77)) d_Mo_ordered_85
  · skip
    obtain ⟨pj, e6⟩ := oI_ge0 h6
    refine lv_iconst (v := zb true) hx hb d_Mo_ordered_9 (by decide) ?_
    refine lv_goto (tgt := 14) hx hb d_Mo_ordered_10 rfl ?_
    refine lv_istore_n (lv' := [(2, .int (zb true)), (0, .ref o), (1, .int (nI w))]) hx hb d_Mo_ordered_14 rfl hl (by decide) rfl (fun ls hl => ?_)
    refine lv_aload_n hx hb d_Mo_ordered_15 rfl (lv_at hl 1 rfl) ?_
    refine va_get (C := R_Mo) (T := F_Mo) (N := 44) hx hb hts (fun w h => List.mem_cons_of_mem _ (hin_Mo w h)) hown hK hP 0 rfl rfl 30 (by decide) (hts _ (List.mem_cons_of_mem _ fl_Mo_165)) (fun _ h => h) rfl d_Mo_ordered_16 ?_
    refine zk_if_lt (tgt := 41) hx hb d_Mo_ordered_19 rfl (by omega) ?_
    refine lv_iload_n hx hb d_Mo_ordered_22 rfl (lv_at hl 0 rfl) ?_
    refine zk_ifb_eq (tgt := 43) hx hb d_Mo_ordered_23 rfl (fun hq => absurd hq (by decide)) (fun _ => ?_)
    refine lv_aload_n hx hb d_Mo_ordered_26 rfl (lv_at hl 1 rfl) ?_
    refine lv_iconst (v := nI 0) hx hb d_Mo_ordered_27 (by decide) ?_
    refine lv_aload_n hx hb d_Mo_ordered_28 rfl (lv_at hl 1 rfl) ?_
    refine va_get (C := R_Mo) (T := F_Mo) (N := 44) hx hb hts (fun w h => List.mem_cons_of_mem _ (hin_Mo w h)) hown hK hP 0 rfl rfl 13 (by decide) (hts _ (List.mem_cons_of_mem _ fl_Mo_31)) (fun _ h => h) rfl d_Mo_ordered_29 ?_
    refine lv_iload_n hx hb d_Mo_ordered_32 rfl (lv_at hl 2 rfl) ?_
    refine zk_oald hx hb hK hP 1 0 rfl rfl (by omega) (by omega) d_Mo_ordered_33 ?_
    refine lv_iconst (v := zb false) hx hb d_Mo_ordered_34 (by decide) ?_
    have hPc := hP.sub (ws' := [(o, .inr (9, [(ϕ 0), (ϕ 1), (ϕ 2), (ϕ 3), (ϕ 4), (ϕ 5), (ϕ 6), (ϕ 7), (ϕ 8), (ϕ 9), (ϕ 10), (ϕ 11), (ϕ 12), .ref a_wPart, .ref a_wOrder, .ref a_wDown, (ϕ 16), (ϕ 17), (ϕ 18), (ϕ 19), (ϕ 20), (ϕ 21), (ϕ 22), (ϕ 23), (ϕ 24), (ϕ 25), (ϕ 26), (ϕ 27), (ϕ 28), (ϕ 29), .int (nI kn), .ref a_keyColumn, .ref a_keyDown, (ϕ 33), (ϕ 34), (ϕ 35), (ϕ 36), (ϕ 37), (ϕ 38), (ϕ 39), (ϕ 40), (ϕ 41), (ϕ 42), (ϕ 43)])), (a_keyColumn, .inl (cI, 2, .inl (zN kf))), (a_keyDown, .inl (cZ, 2, .inl (zZ kg)))]) [0, 4, 5] rfl
    refine zk_ri (va_runV (As := [.int (nI 0), .int (oI (po w)), .int (zb false)]) (rest := []) ⟨hx, hb, hml, hown, hts⟩ (c_Mo_keyIs l D cI cL cZ cW cR o (vp_V [(ϕ 0), (ϕ 1), (ϕ 2), (ϕ 3), (ϕ 4), (ϕ 5), (ϕ 6), (ϕ 7), (ϕ 8), (ϕ 9), (ϕ 10), (ϕ 11), (ϕ 12), .ref a_wPart, .ref a_wOrder, .ref a_wDown, (ϕ 16), (ϕ 17), (ϕ 18), (ϕ 19), (ϕ 20), (ϕ 21), (ϕ 22), (ϕ 23), (ϕ 24), (ϕ 25), (ϕ 26), (ϕ 27), (ϕ 28), (ϕ 29), .int (nI kn), .ref a_keyColumn, .ref a_keyDown, (ϕ 33), (ϕ 34), (ϕ 35), (ϕ 36), (ϕ 37), (ϕ 38), (ϕ 39), (ϕ 40), (ϕ 41), (ϕ 42), (ϕ 43)]) a_keyColumn a_keyDown kn kf kg 0 (oI (po w)) false (by omega) hkn) (cwV 3 hts (zk_gV (fun _ h => List.mem_cons_of_mem _ h) ml_Mo_178 im_Mo_keyIs se_Mo_keyIs in_Mo co_Mo_keyIs) rfl rfl rfl ⟨rfl, hd_Mo_keyIs⟩ ⟨Nat.le_of_ble_eq_true rfl, Nat.le_of_ble_eq_true rfl⟩) (zk_vr (q0 := 0) hN hK hPc rfl rfl) rfl rfl hl.1 rfl (lv_room (Nat.le_of_ble_eq_true rfl)) d_Mo_ordered_35 ⟨Nat.zero_le _, Nat.zero_le _⟩) ?_
    refine zk_ifb_ne (tgt := 43) hx hb d_Mo_ordered_38 rfl (fun h38 => ?_) (fun h38 => ?_)
    · skip
      refine lv_aload_n hx hb d_Mo_ordered_43 rfl (lv_at hl 1 rfl) ?_
      refine va_get (C := R_Mo) (T := F_Mo) (N := 44) hx hb hts (fun w h => List.mem_cons_of_mem _ (hin_Mo w h)) hown hK hP 0 rfl rfl 14 (by decide) (hts _ (List.mem_cons_of_mem _ fl_Mo_34)) (fun _ h => h) rfl d_Mo_ordered_44 ?_
      refine lv_iload_n hx hb d_Mo_ordered_47 rfl (lv_at hl 2 rfl) ?_
      refine zk_oald hx hb hK hP 2 0 rfl rfl (by omega) (by omega) d_Mo_ordered_48 ?_
      refine lv_if_lt (tgt := 80) hx hb d_Mo_ordered_49 rfl (fun h49 => ?_) (fun h49 => ?_)
      · skip
        have e49 := oI_lt0 (hoo w) h49
        refine lv_iconst (v := zb true) hx hb d_Mo_ordered_80 (by decide) ?_
        refine lv_goto (tgt := 85) hx hb d_Mo_ordered_81 rfl ?_
        exact zk_zretR hx hb hr hlk hQ (congrArg zb (by first | exact ord_nn e6 e49 | exact ord_sn e6 h38 e49 | exact ord_ns e6 e49 h77 | exact ord_ss e6 h38 e49 h77)) d_Mo_ordered_85
      · skip
        obtain ⟨oj, e49⟩ := oI_ge0 h49
        refine lv_aload_n hx hb d_Mo_ordered_52 rfl (lv_at hl 1 rfl) ?_
        refine lv_iload_n hx hb d_Mo_ordered_53 rfl (lv_at hl 0 rfl) ?_
        refine zk_ifb_eq (tgt := 61) hx hb d_Mo_ordered_54 rfl (fun hq => absurd hq (by decide)) (fun _ => ?_)
        refine lv_iconst (v := nI 1) hx hb d_Mo_ordered_57 (by decide) ?_
        refine lv_goto (tgt := 62) hx hb d_Mo_ordered_58 rfl ?_
        refine lv_aload_n hx hb d_Mo_ordered_62 rfl (lv_at hl 1 rfl) ?_
        refine va_get (C := R_Mo) (T := F_Mo) (N := 44) hx hb hts (fun w h => List.mem_cons_of_mem _ (hin_Mo w h)) hown hK hP 0 rfl rfl 14 (by decide) (hts _ (List.mem_cons_of_mem _ fl_Mo_34)) (fun _ h => h) rfl d_Mo_ordered_63 ?_
        refine lv_iload_n hx hb d_Mo_ordered_66 rfl (lv_at hl 2 rfl) ?_
        refine zk_oald hx hb hK hP 2 0 rfl rfl (by omega) (by omega) d_Mo_ordered_67 ?_
        refine lv_aload_n hx hb d_Mo_ordered_68 rfl (lv_at hl 1 rfl) ?_
        refine va_get (C := R_Mo) (T := F_Mo) (N := 44) hx hb hts (fun w h => List.mem_cons_of_mem _ (hin_Mo w h)) hown hK hP 0 rfl rfl 15 (by decide) (hts _ (List.mem_cons_of_mem _ fl_Mo_37)) (fun _ h => h) rfl d_Mo_ordered_69 ?_
        refine lv_iload_n hx hb d_Mo_ordered_72 rfl (lv_at hl 2 rfl) ?_
        refine zk_bald hx hb hK hP 3 2 rfl rfl (by omega) (by omega) d_Mo_ordered_73 ?_
        have hPc := hP.sub (ws' := [(o, .inr (9, [(ϕ 0), (ϕ 1), (ϕ 2), (ϕ 3), (ϕ 4), (ϕ 5), (ϕ 6), (ϕ 7), (ϕ 8), (ϕ 9), (ϕ 10), (ϕ 11), (ϕ 12), .ref a_wPart, .ref a_wOrder, .ref a_wDown, (ϕ 16), (ϕ 17), (ϕ 18), (ϕ 19), (ϕ 20), (ϕ 21), (ϕ 22), (ϕ 23), (ϕ 24), (ϕ 25), (ϕ 26), (ϕ 27), (ϕ 28), (ϕ 29), .int (nI kn), .ref a_keyColumn, .ref a_keyDown, (ϕ 33), (ϕ 34), (ϕ 35), (ϕ 36), (ϕ 37), (ϕ 38), (ϕ 39), (ϕ 40), (ϕ 41), (ϕ 42), (ϕ 43)])), (a_keyColumn, .inl (cI, 2, .inl (zN kf))), (a_keyDown, .inl (cZ, 2, .inl (zZ kg)))]) [0, 4, 5] rfl
        refine zk_ri (va_runV (As := [.int (nI 1), .int (oI (oo w)), .int (zb (wd w))]) (rest := []) ⟨hx, hb, hml, hown, hts⟩ (c_Mo_keyIs l D cI cL cZ cW cR o (vp_V [(ϕ 0), (ϕ 1), (ϕ 2), (ϕ 3), (ϕ 4), (ϕ 5), (ϕ 6), (ϕ 7), (ϕ 8), (ϕ 9), (ϕ 10), (ϕ 11), (ϕ 12), .ref a_wPart, .ref a_wOrder, .ref a_wDown, (ϕ 16), (ϕ 17), (ϕ 18), (ϕ 19), (ϕ 20), (ϕ 21), (ϕ 22), (ϕ 23), (ϕ 24), (ϕ 25), (ϕ 26), (ϕ 27), (ϕ 28), (ϕ 29), .int (nI kn), .ref a_keyColumn, .ref a_keyDown, (ϕ 33), (ϕ 34), (ϕ 35), (ϕ 36), (ϕ 37), (ϕ 38), (ϕ 39), (ϕ 40), (ϕ 41), (ϕ 42), (ϕ 43)]) a_keyColumn a_keyDown kn kf kg 1 (oI (oo w)) (wd w) (by omega) hkn) (cwV 3 hts (zk_gV (fun _ h => List.mem_cons_of_mem _ h) ml_Mo_178 im_Mo_keyIs se_Mo_keyIs in_Mo co_Mo_keyIs) rfl rfl rfl ⟨rfl, hd_Mo_keyIs⟩ ⟨Nat.le_of_ble_eq_true rfl, Nat.le_of_ble_eq_true rfl⟩) (zk_vr (q0 := 0) hN hK hPc rfl rfl) rfl rfl hl.1 rfl (lv_room (Nat.le_of_ble_eq_true rfl)) d_Mo_ordered_74 ⟨Nat.zero_le _, Nat.zero_le _⟩) ?_
        refine zk_ifb_eq (tgt := 84) hx hb d_Mo_ordered_77 rfl (fun h77 => ?_) (fun h77 => ?_)
        · skip
          refine lv_iconst (v := zb false) hx hb d_Mo_ordered_84 (by decide) ?_
          exact zk_zretR hx hb hr hlk hQ (congrArg zb (by first | exact ord_nn e6 e49 | exact ord_sn e6 h38 e49 | exact ord_ns e6 e49 h77 | exact ord_ss e6 h38 e49 h77)) d_Mo_ordered_85
        · skip
          refine lv_iconst (v := zb true) hx hb d_Mo_ordered_80 (by decide) ?_
          refine lv_goto (tgt := 85) hx hb d_Mo_ordered_81 rfl ?_
          exact zk_zretR hx hb hr hlk hQ (congrArg zb (by first | exact ord_nn e6 e49 | exact ord_sn e6 h38 e49 | exact ord_ns e6 e49 h77 | exact ord_ss e6 h38 e49 h77)) d_Mo_ordered_85
    · skip
      refine lv_iconst (v := zb false) hx hb d_Mo_ordered_41 (by decide) ?_
      exact zk_zretR hx hb hr hlk hQ (congrArg zb (ord_f e6 h38)) d_Mo_ordered_42
set_option maxHeartbeats 4000000 in
set_option maxRecDepth 100000 in
theorem c_Mo_resultAt_n (l : Launch) (D : va_G) (cI cL cZ cW cR : ClassId) (sz : Nat) (o : Nat) (ϕ : Nat → Value) (a_wArgument a_value a_hole a_list : Nat) (wa : Nat → Nat) (vl : Nat → Int32) (hl_ : Nat → Bool) (li : Nat → Nat) (p9 : Nat) (hp9 : p9 < 1000) (w i st en : Nat) (hw : w < 3) (hi : i < 60) (hst : st < 1000) (hen : en ≤ 60) (hwa : ∀ z, z < 3 → wa z < 6) (hli : ∀ z, z < 60 → li z < 60) : Met l y_Mo_resultAt ws_Mo_resultAt rm1_30 (zPw D vwCl (zT cI cL cZ cW cR) [(o, .inr (9, [(ϕ 0), (ϕ 1), (ϕ 2), (ϕ 3), (ϕ 4), (ϕ 5), (ϕ 6), (ϕ 7), (ϕ 8), (ϕ 9), (ϕ 10), .ref a_wArgument, (ϕ 12), (ϕ 13), (ϕ 14), (ϕ 15), (ϕ 16), (ϕ 17), (ϕ 18), (ϕ 19), (ϕ 20), (ϕ 21), (ϕ 22), (ϕ 23), (ϕ 24), .ref a_value, .ref a_hole, (ϕ 27), (ϕ 28), .ref a_list, (ϕ 30), (ϕ 31), (ϕ 32), (ϕ 33), (ϕ 34), (ϕ 35), (ϕ 36), (ϕ 37), (ϕ 38), (ϕ 39), (ϕ 40), (ϕ 41), (ϕ 42), (ϕ 43)])), (a_wArgument, .inl (cI, 3, .inl (zN wa))), (a_value, .inl (cI, 540, .inl vl)), (a_hole, .inl (cZ, 540, .inl (zZ hl_))), (a_list, .inl (cI, 60, .inl (zN li)))] sz [.ref o, .int (nI w), .int (nI i), .int (nI p9), .int (nI st), .int (nI en)]) (zQv D vwCl (zT cI cL cZ cW cR) [(o, .inr (9, [(ϕ 0), (ϕ 1), (ϕ 2), (ϕ 3), (ϕ 4), (ϕ 5), (ϕ 6), (ϕ 7), (ϕ 8), (ϕ 9), (ϕ 10), .ref a_wArgument, (ϕ 12), (ϕ 13), (ϕ 14), (ϕ 15), (ϕ 16), (ϕ 17), (ϕ 18), (ϕ 19), (ϕ 20), (ϕ 21), (ϕ 22), (ϕ 23), (ϕ 24), .ref a_value, .ref a_hole, (ϕ 27), (ϕ 28), .ref a_list, (ϕ 30), (ϕ 31), (ϕ 32), (ϕ 33), (ϕ 34), (ϕ 35), (ϕ 36), (ϕ 37), (ϕ 38), (ϕ 39), (ϕ 40), (ϕ 41), (ϕ 42), (ϕ 43)])), (a_wArgument, .inl (cI, 3, .inl (zN wa))), (a_value, .inl (cI, 540, .inl vl)), (a_hole, .inl (cZ, 540, .inl (zZ hl_))), (a_list, .inl (cI, 60, .inl (zN li)))] sz (fun u : Bool × Int32 => enc u.1 u.2 = argN (fun z => mCol hl_ vl (wa w) (li z)) p9 st en) (fun u => [(o, .inr (9, [(ϕ 0), (ϕ 1), (ϕ 2), (ϕ 3), (ϕ 4), (ϕ 5), (ϕ 6), (ϕ 7), (ϕ 8), (ϕ 9), (ϕ 10), .ref a_wArgument, (ϕ 12), (ϕ 13), (ϕ 14), (ϕ 15), (ϕ 16), (ϕ 17), (ϕ 18), (ϕ 19), (ϕ 20), (ϕ 21), (ϕ 22), (ϕ 23), (ϕ 24), .ref a_value, .ref a_hole, (ϕ 27), (ϕ 28), .ref a_list, (ϕ 30), (ϕ 31), (ϕ 32), (ϕ 33), (ϕ 34), (ϕ 35), (ϕ 36), (ϕ 37), (ϕ 38), (ϕ 39), (ϕ 40), (ϕ 41), (ϕ 42), (ϕ 43)])), (a_wArgument, .inl (cI, 3, .inl (zN wa))), (a_value, .inl (cI, 540, .inl (upd vl (9 * (li i) + 6 + w) u.2))), (a_hole, .inl (cZ, 540, .inl (zZ (va_up hl_ (9 * (li i) + 6 + w) u.1)))), (a_list, .inl (cI, 60, .inl (zN li)))])) 0 0 (va_A [(o, .inr (9, [(ϕ 0), (ϕ 1), (ϕ 2), (ϕ 3), (ϕ 4), (ϕ 5), (ϕ 6), (ϕ 7), (ϕ 8), (ϕ 9), (ϕ 10), .ref a_wArgument, (ϕ 12), (ϕ 13), (ϕ 14), (ϕ 15), (ϕ 16), (ϕ 17), (ϕ 18), (ϕ 19), (ϕ 20), (ϕ 21), (ϕ 22), (ϕ 23), (ϕ 24), .ref a_value, .ref a_hole, (ϕ 27), (ϕ 28), .ref a_list, (ϕ 30), (ϕ 31), (ϕ 32), (ϕ 33), (ϕ 34), (ϕ 35), (ϕ 36), (ϕ 37), (ϕ 38), (ϕ 39), (ϕ 40), (ϕ 41), (ϕ 42), (ϕ 43)])), (a_wArgument, .inl (cI, 3, .inl (zN wa))), (a_value, .inl (cI, 540, .inl vl)), (a_hole, .inl (cZ, 540, .inl (zZ hl_))), (a_list, .inl (cI, 60, .inl (zN li)))] sz) := by
  refine zk_enterW (cc := b_Mo_resultAt) (maxL := 8) (ret := none) (by decide) rfl (Nat.le_of_ble_eq_true rfl) ?_
  intro p e s m args below meth c ls Q hx hb hml hr hlk hown hts hP hK hN hl hin hsz A hAe hA hD hS hQ
  subst hsz
  have hl : lv_has ls 8 [(0, .ref o), (1, .int (nI w)), (2, .int (nI i)), (3, .int (nI p9)), (4, .int (nI st)), (5, .int (nI en))] := hl
  have hwa0 := hwa w hw
  refine lv_iload_n hx hb d_Mo_resultAt_0 rfl (lv_at hl 3 rfl) ?_
  refine lv_iload hx hb d_Mo_resultAt_1 (lv_at hl 4 rfl) ?_
  refine zk_icmp_lt (tgt := 16) hx hb d_Mo_resultAt_3 rfl (by omega) (by omega) (fun h3 => ?_) (fun h3 => ?_)
  · skip
    refine lv_iconst (v := zb false) hx hb d_Mo_resultAt_16 (by decide) ?_
    refine lv_istore (lv' := [(6, .int (zb false)), (0, .ref o), (1, .int (nI w)), (2, .int (nI i)), (3, .int (nI p9)), (4, .int (nI st)), (5, .int (nI en))]) hx hb d_Mo_resultAt_17 hl (by decide) rfl (fun ls hl => ?_)
    refine lv_iload hx hb d_Mo_resultAt_19 (lv_at hl 0 rfl) ?_
    refine zk_ifb_eq (tgt := 43) hx hb d_Mo_resultAt_21 rfl (fun _ => ?_) (fun hq => absurd hq (by decide))
    refine lv_iconst (v := nI 0) hx hb d_Mo_resultAt_43 (by decide) ?_
    refine lv_istore (lv' := [(7, .int (nI 0)), (6, .int (zb false)), (0, .ref o), (1, .int (nI w)), (2, .int (nI i)), (3, .int (nI p9)), (4, .int (nI st)), (5, .int (nI en))]) hx hb d_Mo_resultAt_44 hl (by decide) rfl (fun ls hl => ?_)
    refine lv_aload_n hx hb d_Mo_resultAt_46 rfl (lv_at hl 2 rfl) ?_
    refine lv_iload_n hx hb d_Mo_resultAt_47 rfl (lv_at hl 3 rfl) ?_
    refine lv_iload_n hx hb d_Mo_resultAt_48 rfl (lv_at hl 4 rfl) ?_
    refine lv_iload hx hb d_Mo_resultAt_49 (lv_at hl 1 rfl) ?_
    refine zk_ifb_eq (tgt := 68) hx hb d_Mo_resultAt_51 rfl (fun _ => ?_) (fun hq => absurd hq (by decide))
    refine lv_iconst (v := zb false) hx hb d_Mo_resultAt_68 (by decide) ?_
    refine lv_iload hx hb d_Mo_resultAt_69 (lv_at hl 1 rfl) ?_
    refine zk_ifb_eq (tgt := 84) hx hb d_Mo_resultAt_71 rfl (fun _ => ?_) (fun hq => absurd hq (by decide))
    refine lv_iconst (v := nI 0) hx hb d_Mo_resultAt_84 (by decide) ?_
    have hPc := hP.sub (ws' := [(o, .inr (9, [(ϕ 0), (ϕ 1), (ϕ 2), (ϕ 3), (ϕ 4), (ϕ 5), (ϕ 6), (ϕ 7), (ϕ 8), (ϕ 9), (ϕ 10), .ref a_wArgument, (ϕ 12), (ϕ 13), (ϕ 14), (ϕ 15), (ϕ 16), (ϕ 17), (ϕ 18), (ϕ 19), (ϕ 20), (ϕ 21), (ϕ 22), (ϕ 23), (ϕ 24), .ref a_value, .ref a_hole, (ϕ 27), (ϕ 28), .ref a_list, (ϕ 30), (ϕ 31), (ϕ 32), (ϕ 33), (ϕ 34), (ϕ 35), (ϕ 36), (ϕ 37), (ϕ 38), (ϕ 39), (ϕ 40), (ϕ 41), (ϕ 42), (ϕ 43)])), (a_value, .inl (cI, 540, .inl vl)), (a_hole, .inl (cZ, 540, .inl (zZ hl_))), (a_list, .inl (cI, 60, .inl (zN li)))]) [0, 2, 3, 4] rfl
    have hDc := hD.sub (ws' := [(o, .inr (9, [(ϕ 0), (ϕ 1), (ϕ 2), (ϕ 3), (ϕ 4), (ϕ 5), (ϕ 6), (ϕ 7), (ϕ 8), (ϕ 9), (ϕ 10), .ref a_wArgument, (ϕ 12), (ϕ 13), (ϕ 14), (ϕ 15), (ϕ 16), (ϕ 17), (ϕ 18), (ϕ 19), (ϕ 20), (ϕ 21), (ϕ 22), (ϕ 23), (ϕ 24), .ref a_value, .ref a_hole, (ϕ 27), (ϕ 28), .ref a_list, (ϕ 30), (ϕ 31), (ϕ 32), (ϕ 33), (ϕ 34), (ϕ 35), (ϕ 36), (ϕ 37), (ϕ 38), (ϕ 39), (ϕ 40), (ϕ 41), (ϕ 42), (ϕ 43)])), (a_value, .inl (cI, 540, .inl vl)), (a_hole, .inl (cZ, 540, .inl (zZ hl_))), (a_list, .inl (cI, 60, .inl (zN li)))]) [0, 2, 3, 4] (by decide) rfl
    refine zk_wv (wr := [(a_wArgument, .inl (cI, 3, .inl (zN wa)))]) (w2 := (fun _ => [(o, .inr (9, [(ϕ 0), (ϕ 1), (ϕ 2), (ϕ 3), (ϕ 4), (ϕ 5), (ϕ 6), (ϕ 7), (ϕ 8), (ϕ 9), (ϕ 10), .ref a_wArgument, (ϕ 12), (ϕ 13), (ϕ 14), (ϕ 15), (ϕ 16), (ϕ 17), (ϕ 18), (ϕ 19), (ϕ 20), (ϕ 21), (ϕ 22), (ϕ 23), (ϕ 24), .ref a_value, .ref a_hole, (ϕ 27), (ϕ 28), .ref a_list, (ϕ 30), (ϕ 31), (ϕ 32), (ϕ 33), (ϕ 34), (ϕ 35), (ϕ 36), (ϕ 37), (ϕ 38), (ϕ 39), (ϕ 40), (ϕ 41), (ϕ 42), (ϕ 43)])), (a_wArgument, .inl (cI, 3, .inl (zN wa))), (a_value, .inl (cI, 540, .inl (upd vl (9 * li i + 6 + w) (if false = true then nI 0 else nI 0)))), (a_hole, .inl (cZ, 540, .inl (zZ (va_up hl_ (9 * li i + 6 + w) (!false))))), (a_list, .inl (cI, 60, .inl (zN li)))])) hP hD hS hA [0, 2, 3, 4] [1] [1, 0, 2, 3, 4] rfl rfl (by decide) (by decide) (fun _ => rfl) (by decide) (va_runV (As := [.int (nI w), .int (nI i), .int (zb false), .int (nI 0)]) (rest := []) ⟨hx, hb, hml, hown, hts⟩ (c_Mo_result l D cI cL cZ cW cR _ o (vp_V [(ϕ 0), (ϕ 1), (ϕ 2), (ϕ 3), (ϕ 4), (ϕ 5), (ϕ 6), (ϕ 7), (ϕ 8), (ϕ 9), (ϕ 10), .ref a_wArgument, (ϕ 12), (ϕ 13), (ϕ 14), (ϕ 15), (ϕ 16), (ϕ 17), (ϕ 18), (ϕ 19), (ϕ 20), (ϕ 21), (ϕ 22), (ϕ 23), (ϕ 24), .ref a_value, .ref a_hole, (ϕ 27), (ϕ 28), .ref a_list, (ϕ 30), (ϕ 31), (ϕ 32), (ϕ 33), (ϕ 34), (ϕ 35), (ϕ 36), (ϕ 37), (ϕ 38), (ϕ 39), (ϕ 40), (ϕ 41), (ϕ 42), (ϕ 43)]) a_value a_hole a_list vl hl_ li w i false (nI 0) (by omega) (by omega) (hli _ (by omega))) (cwV 4 hts (zk_gV (fun _ h => List.mem_cons_of_mem _ h) ml_Mo_199 im_Mo_result se_Mo_result in_Mo co_Mo_result) rfl rfl rfl ⟨rfl, hd_Mo_result⟩ ⟨Nat.le_of_ble_eq_true rfl, Nat.le_of_ble_eq_true rfl⟩) (zk_vw (q0 := 0) hN hK hPc hDc rfl rfl) rfl rfl hl.1 rfl (lv_room (Nat.le_of_ble_eq_true rfl)) d_Mo_resultAt_85 ⟨Nat.zero_le _, Nat.zero_le _⟩) (fun u9 H locs hpost hP hD hS => ?_)
    have hP : va_P D vwCl [(o, .inr (9, [(ϕ 0), (ϕ 1), (ϕ 2), (ϕ 3), (ϕ 4), (ϕ 5), (ϕ 6), (ϕ 7), (ϕ 8), (ϕ 9), (ϕ 10), .ref a_wArgument, (ϕ 12), (ϕ 13), (ϕ 14), (ϕ 15), (ϕ 16), (ϕ 17), (ϕ 18), (ϕ 19), (ϕ 20), (ϕ 21), (ϕ 22), (ϕ 23), (ϕ 24), .ref a_value, .ref a_hole, (ϕ 27), (ϕ 28), .ref a_list, (ϕ 30), (ϕ 31), (ϕ 32), (ϕ 33), (ϕ 34), (ϕ 35), (ϕ 36), (ϕ 37), (ϕ 38), (ϕ 39), (ϕ 40), (ϕ 41), (ϕ 42), (ϕ 43)])), (a_wArgument, .inl (cI, 3, .inl (zN wa))), (a_value, .inl (cI, 540, .inl (upd vl (9 * li i + 6 + w) (if false = true then nI 0 else nI 0)))), (a_hole, .inl (cZ, 540, .inl (zZ (va_up hl_ (9 * li i + 6 + w) (!false))))), (a_list, .inl (cI, 60, .inl (zN li)))] H := hP
    have hD : va_D A [(o, .inr (9, [(ϕ 0), (ϕ 1), (ϕ 2), (ϕ 3), (ϕ 4), (ϕ 5), (ϕ 6), (ϕ 7), (ϕ 8), (ϕ 9), (ϕ 10), .ref a_wArgument, (ϕ 12), (ϕ 13), (ϕ 14), (ϕ 15), (ϕ 16), (ϕ 17), (ϕ 18), (ϕ 19), (ϕ 20), (ϕ 21), (ϕ 22), (ϕ 23), (ϕ 24), .ref a_value, .ref a_hole, (ϕ 27), (ϕ 28), .ref a_list, (ϕ 30), (ϕ 31), (ϕ 32), (ϕ 33), (ϕ 34), (ϕ 35), (ϕ 36), (ϕ 37), (ϕ 38), (ϕ 39), (ϕ 40), (ϕ 41), (ϕ 42), (ϕ 43)])), (a_wArgument, .inl (cI, 3, .inl (zN wa))), (a_value, .inl (cI, 540, .inl (upd vl (9 * li i + 6 + w) (if false = true then nI 0 else nI 0)))), (a_hole, .inl (cZ, 540, .inl (zZ (va_up hl_ (9 * li i + 6 + w) (!false))))), (a_list, .inl (cI, 60, .inl (zN li)))] := hD
    exact zk_vretW hx hb hr hlk hAe hQ hK ((!false, if false = true then nI 0 else nI 0)) (by first | (rw [enc_r, if_pos rfl, argN_in ⟨h3, h9⟩]; show _ = enc (hl_ (9 * (li p9) + (wa w))) (vl (9 * (li p9) + (wa w))); rw [h61]; exact enc_f.symm) | (rw [enc_r, if_neg Bool.false_ne_true, argN_in ⟨h3, h9⟩]; show _ = enc (hl_ (9 * (li p9) + (wa w))) (vl (9 * (li p9) + (wa w))); rw [h61]; exact enc_t.symm) | (rw [enc_r, if_neg Bool.false_ne_true, argN_out (by omega)])) hP hD hS d_Mo_resultAt_88
  · skip
    refine lv_iload_n hx hb d_Mo_resultAt_6 rfl (lv_at hl 3 rfl) ?_
    refine lv_iload hx hb d_Mo_resultAt_7 (lv_at hl 5 rfl) ?_
    refine zk_icmp_ge (tgt := 16) hx hb d_Mo_resultAt_9 rfl (by omega) (by omega) (fun h9 => ?_) (fun h9 => ?_)
    · skip
      refine lv_iconst (v := zb false) hx hb d_Mo_resultAt_16 (by decide) ?_
      refine lv_istore (lv' := [(6, .int (zb false)), (0, .ref o), (1, .int (nI w)), (2, .int (nI i)), (3, .int (nI p9)), (4, .int (nI st)), (5, .int (nI en))]) hx hb d_Mo_resultAt_17 hl (by decide) rfl (fun ls hl => ?_)
      refine lv_iload hx hb d_Mo_resultAt_19 (lv_at hl 0 rfl) ?_
      refine zk_ifb_eq (tgt := 43) hx hb d_Mo_resultAt_21 rfl (fun _ => ?_) (fun hq => absurd hq (by decide))
      refine lv_iconst (v := nI 0) hx hb d_Mo_resultAt_43 (by decide) ?_
      refine lv_istore (lv' := [(7, .int (nI 0)), (6, .int (zb false)), (0, .ref o), (1, .int (nI w)), (2, .int (nI i)), (3, .int (nI p9)), (4, .int (nI st)), (5, .int (nI en))]) hx hb d_Mo_resultAt_44 hl (by decide) rfl (fun ls hl => ?_)
      refine lv_aload_n hx hb d_Mo_resultAt_46 rfl (lv_at hl 2 rfl) ?_
      refine lv_iload_n hx hb d_Mo_resultAt_47 rfl (lv_at hl 3 rfl) ?_
      refine lv_iload_n hx hb d_Mo_resultAt_48 rfl (lv_at hl 4 rfl) ?_
      refine lv_iload hx hb d_Mo_resultAt_49 (lv_at hl 1 rfl) ?_
      refine zk_ifb_eq (tgt := 68) hx hb d_Mo_resultAt_51 rfl (fun _ => ?_) (fun hq => absurd hq (by decide))
      refine lv_iconst (v := zb false) hx hb d_Mo_resultAt_68 (by decide) ?_
      refine lv_iload hx hb d_Mo_resultAt_69 (lv_at hl 1 rfl) ?_
      refine zk_ifb_eq (tgt := 84) hx hb d_Mo_resultAt_71 rfl (fun _ => ?_) (fun hq => absurd hq (by decide))
      refine lv_iconst (v := nI 0) hx hb d_Mo_resultAt_84 (by decide) ?_
      have hPc := hP.sub (ws' := [(o, .inr (9, [(ϕ 0), (ϕ 1), (ϕ 2), (ϕ 3), (ϕ 4), (ϕ 5), (ϕ 6), (ϕ 7), (ϕ 8), (ϕ 9), (ϕ 10), .ref a_wArgument, (ϕ 12), (ϕ 13), (ϕ 14), (ϕ 15), (ϕ 16), (ϕ 17), (ϕ 18), (ϕ 19), (ϕ 20), (ϕ 21), (ϕ 22), (ϕ 23), (ϕ 24), .ref a_value, .ref a_hole, (ϕ 27), (ϕ 28), .ref a_list, (ϕ 30), (ϕ 31), (ϕ 32), (ϕ 33), (ϕ 34), (ϕ 35), (ϕ 36), (ϕ 37), (ϕ 38), (ϕ 39), (ϕ 40), (ϕ 41), (ϕ 42), (ϕ 43)])), (a_value, .inl (cI, 540, .inl vl)), (a_hole, .inl (cZ, 540, .inl (zZ hl_))), (a_list, .inl (cI, 60, .inl (zN li)))]) [0, 2, 3, 4] rfl
      have hDc := hD.sub (ws' := [(o, .inr (9, [(ϕ 0), (ϕ 1), (ϕ 2), (ϕ 3), (ϕ 4), (ϕ 5), (ϕ 6), (ϕ 7), (ϕ 8), (ϕ 9), (ϕ 10), .ref a_wArgument, (ϕ 12), (ϕ 13), (ϕ 14), (ϕ 15), (ϕ 16), (ϕ 17), (ϕ 18), (ϕ 19), (ϕ 20), (ϕ 21), (ϕ 22), (ϕ 23), (ϕ 24), .ref a_value, .ref a_hole, (ϕ 27), (ϕ 28), .ref a_list, (ϕ 30), (ϕ 31), (ϕ 32), (ϕ 33), (ϕ 34), (ϕ 35), (ϕ 36), (ϕ 37), (ϕ 38), (ϕ 39), (ϕ 40), (ϕ 41), (ϕ 42), (ϕ 43)])), (a_value, .inl (cI, 540, .inl vl)), (a_hole, .inl (cZ, 540, .inl (zZ hl_))), (a_list, .inl (cI, 60, .inl (zN li)))]) [0, 2, 3, 4] (by decide) rfl
      refine zk_wv (wr := [(a_wArgument, .inl (cI, 3, .inl (zN wa)))]) (w2 := (fun _ => [(o, .inr (9, [(ϕ 0), (ϕ 1), (ϕ 2), (ϕ 3), (ϕ 4), (ϕ 5), (ϕ 6), (ϕ 7), (ϕ 8), (ϕ 9), (ϕ 10), .ref a_wArgument, (ϕ 12), (ϕ 13), (ϕ 14), (ϕ 15), (ϕ 16), (ϕ 17), (ϕ 18), (ϕ 19), (ϕ 20), (ϕ 21), (ϕ 22), (ϕ 23), (ϕ 24), .ref a_value, .ref a_hole, (ϕ 27), (ϕ 28), .ref a_list, (ϕ 30), (ϕ 31), (ϕ 32), (ϕ 33), (ϕ 34), (ϕ 35), (ϕ 36), (ϕ 37), (ϕ 38), (ϕ 39), (ϕ 40), (ϕ 41), (ϕ 42), (ϕ 43)])), (a_wArgument, .inl (cI, 3, .inl (zN wa))), (a_value, .inl (cI, 540, .inl (upd vl (9 * li i + 6 + w) (if false = true then nI 0 else nI 0)))), (a_hole, .inl (cZ, 540, .inl (zZ (va_up hl_ (9 * li i + 6 + w) (!false))))), (a_list, .inl (cI, 60, .inl (zN li)))])) hP hD hS hA [0, 2, 3, 4] [1] [1, 0, 2, 3, 4] rfl rfl (by decide) (by decide) (fun _ => rfl) (by decide) (va_runV (As := [.int (nI w), .int (nI i), .int (zb false), .int (nI 0)]) (rest := []) ⟨hx, hb, hml, hown, hts⟩ (c_Mo_result l D cI cL cZ cW cR _ o (vp_V [(ϕ 0), (ϕ 1), (ϕ 2), (ϕ 3), (ϕ 4), (ϕ 5), (ϕ 6), (ϕ 7), (ϕ 8), (ϕ 9), (ϕ 10), .ref a_wArgument, (ϕ 12), (ϕ 13), (ϕ 14), (ϕ 15), (ϕ 16), (ϕ 17), (ϕ 18), (ϕ 19), (ϕ 20), (ϕ 21), (ϕ 22), (ϕ 23), (ϕ 24), .ref a_value, .ref a_hole, (ϕ 27), (ϕ 28), .ref a_list, (ϕ 30), (ϕ 31), (ϕ 32), (ϕ 33), (ϕ 34), (ϕ 35), (ϕ 36), (ϕ 37), (ϕ 38), (ϕ 39), (ϕ 40), (ϕ 41), (ϕ 42), (ϕ 43)]) a_value a_hole a_list vl hl_ li w i false (nI 0) (by omega) (by omega) (hli _ (by omega))) (cwV 4 hts (zk_gV (fun _ h => List.mem_cons_of_mem _ h) ml_Mo_199 im_Mo_result se_Mo_result in_Mo co_Mo_result) rfl rfl rfl ⟨rfl, hd_Mo_result⟩ ⟨Nat.le_of_ble_eq_true rfl, Nat.le_of_ble_eq_true rfl⟩) (zk_vw (q0 := 0) hN hK hPc hDc rfl rfl) rfl rfl hl.1 rfl (lv_room (Nat.le_of_ble_eq_true rfl)) d_Mo_resultAt_85 ⟨Nat.zero_le _, Nat.zero_le _⟩) (fun u9 H locs hpost hP hD hS => ?_)
      have hP : va_P D vwCl [(o, .inr (9, [(ϕ 0), (ϕ 1), (ϕ 2), (ϕ 3), (ϕ 4), (ϕ 5), (ϕ 6), (ϕ 7), (ϕ 8), (ϕ 9), (ϕ 10), .ref a_wArgument, (ϕ 12), (ϕ 13), (ϕ 14), (ϕ 15), (ϕ 16), (ϕ 17), (ϕ 18), (ϕ 19), (ϕ 20), (ϕ 21), (ϕ 22), (ϕ 23), (ϕ 24), .ref a_value, .ref a_hole, (ϕ 27), (ϕ 28), .ref a_list, (ϕ 30), (ϕ 31), (ϕ 32), (ϕ 33), (ϕ 34), (ϕ 35), (ϕ 36), (ϕ 37), (ϕ 38), (ϕ 39), (ϕ 40), (ϕ 41), (ϕ 42), (ϕ 43)])), (a_wArgument, .inl (cI, 3, .inl (zN wa))), (a_value, .inl (cI, 540, .inl (upd vl (9 * li i + 6 + w) (if false = true then nI 0 else nI 0)))), (a_hole, .inl (cZ, 540, .inl (zZ (va_up hl_ (9 * li i + 6 + w) (!false))))), (a_list, .inl (cI, 60, .inl (zN li)))] H := hP
      have hD : va_D A [(o, .inr (9, [(ϕ 0), (ϕ 1), (ϕ 2), (ϕ 3), (ϕ 4), (ϕ 5), (ϕ 6), (ϕ 7), (ϕ 8), (ϕ 9), (ϕ 10), .ref a_wArgument, (ϕ 12), (ϕ 13), (ϕ 14), (ϕ 15), (ϕ 16), (ϕ 17), (ϕ 18), (ϕ 19), (ϕ 20), (ϕ 21), (ϕ 22), (ϕ 23), (ϕ 24), .ref a_value, .ref a_hole, (ϕ 27), (ϕ 28), .ref a_list, (ϕ 30), (ϕ 31), (ϕ 32), (ϕ 33), (ϕ 34), (ϕ 35), (ϕ 36), (ϕ 37), (ϕ 38), (ϕ 39), (ϕ 40), (ϕ 41), (ϕ 42), (ϕ 43)])), (a_wArgument, .inl (cI, 3, .inl (zN wa))), (a_value, .inl (cI, 540, .inl (upd vl (9 * li i + 6 + w) (if false = true then nI 0 else nI 0)))), (a_hole, .inl (cZ, 540, .inl (zZ (va_up hl_ (9 * li i + 6 + w) (!false))))), (a_list, .inl (cI, 60, .inl (zN li)))] := hD
      exact zk_vretW hx hb hr hlk hAe hQ hK ((!false, if false = true then nI 0 else nI 0)) (by first | (rw [enc_r, if_pos rfl, argN_in ⟨h3, h9⟩]; show _ = enc (hl_ (9 * (li p9) + (wa w))) (vl (9 * (li p9) + (wa w))); rw [h61]; exact enc_f.symm) | (rw [enc_r, if_neg Bool.false_ne_true, argN_in ⟨h3, h9⟩]; show _ = enc (hl_ (9 * (li p9) + (wa w))) (vl (9 * (li p9) + (wa w))); rw [h61]; exact enc_t.symm) | (rw [enc_r, if_neg Bool.false_ne_true, argN_out (by omega)])) hP hD hS d_Mo_resultAt_88
    · skip
      refine lv_iconst (v := zb true) hx hb d_Mo_resultAt_12 (by decide) ?_
      refine lv_goto (tgt := 17) hx hb d_Mo_resultAt_13 rfl ?_
      refine lv_istore (lv' := [(6, .int (zb true)), (0, .ref o), (1, .int (nI w)), (2, .int (nI i)), (3, .int (nI p9)), (4, .int (nI st)), (5, .int (nI en))]) hx hb d_Mo_resultAt_17 hl (by decide) rfl (fun ls hl => ?_)
      refine lv_iload hx hb d_Mo_resultAt_19 (lv_at hl 0 rfl) ?_
      refine zk_ifb_eq (tgt := 43) hx hb d_Mo_resultAt_21 rfl (fun hq => absurd hq (by decide)) (fun _ => ?_)
      have hl9 := hli p9 (by omega)
      refine lv_bipush (v := nI 9) hx hb d_Mo_resultAt_24 (by decide) ?_
      refine lv_aload_n hx hb d_Mo_resultAt_26 rfl (lv_at hl 1 rfl) ?_
      refine va_get (C := R_Mo) (T := F_Mo) (N := 44) hx hb hts (fun w h => List.mem_cons_of_mem _ (hin_Mo w h)) hown hK hP 0 rfl rfl 29 (by decide) (hts _ (List.mem_cons_of_mem _ fl_Mo_65)) (fun _ h => h) rfl d_Mo_resultAt_27 ?_
      refine lv_iload_n hx hb d_Mo_resultAt_30 rfl (lv_at hl 4 rfl) ?_
      refine zk_nald hx hb hK hP 4 0 rfl rfl (by omega) (by omega) d_Mo_resultAt_31 ?_
      refine lv_imul hx hb d_Mo_resultAt_32 ?_
      refine zk_topi (show ((nI 9) * (nI (li p9))) = nI (9 * (li p9)) from pk_mul 9 (li p9)) ?_
      refine lv_aload_n hx hb d_Mo_resultAt_33 rfl (lv_at hl 1 rfl) ?_
      refine va_get (C := R_Mo) (T := F_Mo) (N := 44) hx hb hts (fun w h => List.mem_cons_of_mem _ (hin_Mo w h)) hown hK hP 0 rfl rfl 11 (by decide) (hts _ (List.mem_cons_of_mem _ fl_Mo_25)) (fun _ h => h) rfl d_Mo_resultAt_34 ?_
      refine lv_iload_n hx hb d_Mo_resultAt_37 rfl (lv_at hl 2 rfl) ?_
      refine zk_nald hx hb hK hP 1 0 rfl rfl (by omega) (by omega) d_Mo_resultAt_38 ?_
      refine lv_iadd hx hb d_Mo_resultAt_39 ?_
      refine zk_topi (show ((nI (9 * (li p9))) + (nI (wa w))) = nI (9 * (li p9) + (wa w)) from nI_add (9 * (li p9)) (wa w)) ?_
      refine lv_goto (tgt := 44) hx hb d_Mo_resultAt_40 rfl ?_
      refine lv_istore (lv' := [(7, .int (nI (9 * (li p9) + (wa w)))), (6, .int (zb true)), (0, .ref o), (1, .int (nI w)), (2, .int (nI i)), (3, .int (nI p9)), (4, .int (nI st)), (5, .int (nI en))]) hx hb d_Mo_resultAt_44 hl (by decide) rfl (fun ls hl => ?_)
      refine lv_aload_n hx hb d_Mo_resultAt_46 rfl (lv_at hl 2 rfl) ?_
      refine lv_iload_n hx hb d_Mo_resultAt_47 rfl (lv_at hl 3 rfl) ?_
      refine lv_iload_n hx hb d_Mo_resultAt_48 rfl (lv_at hl 4 rfl) ?_
      refine lv_iload hx hb d_Mo_resultAt_49 (lv_at hl 1 rfl) ?_
      refine zk_ifb_eq (tgt := 68) hx hb d_Mo_resultAt_51 rfl (fun hq => absurd hq (by decide)) (fun _ => ?_)
      refine lv_aload_n hx hb d_Mo_resultAt_54 rfl (lv_at hl 2 rfl) ?_
      refine va_get (C := R_Mo) (T := F_Mo) (N := 44) hx hb hts (fun w h => List.mem_cons_of_mem _ (hin_Mo w h)) hown hK hP 0 rfl rfl 26 (by decide) (hts _ (List.mem_cons_of_mem _ fl_Mo_56)) (fun _ h => h) rfl d_Mo_resultAt_55 ?_
      refine lv_iload hx hb d_Mo_resultAt_58 (lv_at hl 0 rfl) ?_
      refine zk_bald hx hb hK hP 3 2 rfl rfl (by omega) (by omega) d_Mo_resultAt_60 ?_
      refine zk_ifb_ne (tgt := 68) hx hb d_Mo_resultAt_61 rfl (fun h61 => ?_) (fun h61 => ?_)
      · skip
        refine lv_iconst (v := zb false) hx hb d_Mo_resultAt_68 (by decide) ?_
        refine lv_iload hx hb d_Mo_resultAt_69 (lv_at hl 1 rfl) ?_
        refine zk_ifb_eq (tgt := 84) hx hb d_Mo_resultAt_71 rfl (fun hq => absurd hq (by decide)) (fun _ => ?_)
        refine lv_aload_n hx hb d_Mo_resultAt_74 rfl (lv_at hl 2 rfl) ?_
        refine va_get (C := R_Mo) (T := F_Mo) (N := 44) hx hb hts (fun w h => List.mem_cons_of_mem _ (hin_Mo w h)) hown hK hP 0 rfl rfl 25 (by decide) (hts _ (List.mem_cons_of_mem _ fl_Mo_53)) (fun _ h => h) rfl d_Mo_resultAt_75 ?_
        refine lv_iload hx hb d_Mo_resultAt_78 (lv_at hl 0 rfl) ?_
        refine zk_iald hx hb hK hP 2 0 rfl rfl (by omega) (by omega) d_Mo_resultAt_80 ?_
        refine lv_goto (tgt := 85) hx hb d_Mo_resultAt_81 rfl ?_
        have hPc := hP.sub (ws' := [(o, .inr (9, [(ϕ 0), (ϕ 1), (ϕ 2), (ϕ 3), (ϕ 4), (ϕ 5), (ϕ 6), (ϕ 7), (ϕ 8), (ϕ 9), (ϕ 10), .ref a_wArgument, (ϕ 12), (ϕ 13), (ϕ 14), (ϕ 15), (ϕ 16), (ϕ 17), (ϕ 18), (ϕ 19), (ϕ 20), (ϕ 21), (ϕ 22), (ϕ 23), (ϕ 24), .ref a_value, .ref a_hole, (ϕ 27), (ϕ 28), .ref a_list, (ϕ 30), (ϕ 31), (ϕ 32), (ϕ 33), (ϕ 34), (ϕ 35), (ϕ 36), (ϕ 37), (ϕ 38), (ϕ 39), (ϕ 40), (ϕ 41), (ϕ 42), (ϕ 43)])), (a_value, .inl (cI, 540, .inl vl)), (a_hole, .inl (cZ, 540, .inl (zZ hl_))), (a_list, .inl (cI, 60, .inl (zN li)))]) [0, 2, 3, 4] rfl
        have hDc := hD.sub (ws' := [(o, .inr (9, [(ϕ 0), (ϕ 1), (ϕ 2), (ϕ 3), (ϕ 4), (ϕ 5), (ϕ 6), (ϕ 7), (ϕ 8), (ϕ 9), (ϕ 10), .ref a_wArgument, (ϕ 12), (ϕ 13), (ϕ 14), (ϕ 15), (ϕ 16), (ϕ 17), (ϕ 18), (ϕ 19), (ϕ 20), (ϕ 21), (ϕ 22), (ϕ 23), (ϕ 24), .ref a_value, .ref a_hole, (ϕ 27), (ϕ 28), .ref a_list, (ϕ 30), (ϕ 31), (ϕ 32), (ϕ 33), (ϕ 34), (ϕ 35), (ϕ 36), (ϕ 37), (ϕ 38), (ϕ 39), (ϕ 40), (ϕ 41), (ϕ 42), (ϕ 43)])), (a_value, .inl (cI, 540, .inl vl)), (a_hole, .inl (cZ, 540, .inl (zZ hl_))), (a_list, .inl (cI, 60, .inl (zN li)))]) [0, 2, 3, 4] (by decide) rfl
        refine zk_wv (wr := [(a_wArgument, .inl (cI, 3, .inl (zN wa)))]) (w2 := (fun _ => [(o, .inr (9, [(ϕ 0), (ϕ 1), (ϕ 2), (ϕ 3), (ϕ 4), (ϕ 5), (ϕ 6), (ϕ 7), (ϕ 8), (ϕ 9), (ϕ 10), .ref a_wArgument, (ϕ 12), (ϕ 13), (ϕ 14), (ϕ 15), (ϕ 16), (ϕ 17), (ϕ 18), (ϕ 19), (ϕ 20), (ϕ 21), (ϕ 22), (ϕ 23), (ϕ 24), .ref a_value, .ref a_hole, (ϕ 27), (ϕ 28), .ref a_list, (ϕ 30), (ϕ 31), (ϕ 32), (ϕ 33), (ϕ 34), (ϕ 35), (ϕ 36), (ϕ 37), (ϕ 38), (ϕ 39), (ϕ 40), (ϕ 41), (ϕ 42), (ϕ 43)])), (a_wArgument, .inl (cI, 3, .inl (zN wa))), (a_value, .inl (cI, 540, .inl (upd vl (9 * li i + 6 + w) (if false = true then vl (9 * (li p9) + (wa w)) else nI 0)))), (a_hole, .inl (cZ, 540, .inl (zZ (va_up hl_ (9 * li i + 6 + w) (!false))))), (a_list, .inl (cI, 60, .inl (zN li)))])) hP hD hS hA [0, 2, 3, 4] [1] [1, 0, 2, 3, 4] rfl rfl (by decide) (by decide) (fun _ => rfl) (by decide) (va_runV (As := [.int (nI w), .int (nI i), .int (zb false), .int (vl (9 * (li p9) + (wa w)))]) (rest := []) ⟨hx, hb, hml, hown, hts⟩ (c_Mo_result l D cI cL cZ cW cR _ o (vp_V [(ϕ 0), (ϕ 1), (ϕ 2), (ϕ 3), (ϕ 4), (ϕ 5), (ϕ 6), (ϕ 7), (ϕ 8), (ϕ 9), (ϕ 10), .ref a_wArgument, (ϕ 12), (ϕ 13), (ϕ 14), (ϕ 15), (ϕ 16), (ϕ 17), (ϕ 18), (ϕ 19), (ϕ 20), (ϕ 21), (ϕ 22), (ϕ 23), (ϕ 24), .ref a_value, .ref a_hole, (ϕ 27), (ϕ 28), .ref a_list, (ϕ 30), (ϕ 31), (ϕ 32), (ϕ 33), (ϕ 34), (ϕ 35), (ϕ 36), (ϕ 37), (ϕ 38), (ϕ 39), (ϕ 40), (ϕ 41), (ϕ 42), (ϕ 43)]) a_value a_hole a_list vl hl_ li w i false (vl (9 * (li p9) + (wa w))) (by omega) (by omega) (hli _ (by omega))) (cwV 4 hts (zk_gV (fun _ h => List.mem_cons_of_mem _ h) ml_Mo_199 im_Mo_result se_Mo_result in_Mo co_Mo_result) rfl rfl rfl ⟨rfl, hd_Mo_result⟩ ⟨Nat.le_of_ble_eq_true rfl, Nat.le_of_ble_eq_true rfl⟩) (zk_vw (q0 := 0) hN hK hPc hDc rfl rfl) rfl rfl hl.1 rfl (lv_room (Nat.le_of_ble_eq_true rfl)) d_Mo_resultAt_85 ⟨Nat.zero_le _, Nat.zero_le _⟩) (fun u9 H locs hpost hP hD hS => ?_)
        have hP : va_P D vwCl [(o, .inr (9, [(ϕ 0), (ϕ 1), (ϕ 2), (ϕ 3), (ϕ 4), (ϕ 5), (ϕ 6), (ϕ 7), (ϕ 8), (ϕ 9), (ϕ 10), .ref a_wArgument, (ϕ 12), (ϕ 13), (ϕ 14), (ϕ 15), (ϕ 16), (ϕ 17), (ϕ 18), (ϕ 19), (ϕ 20), (ϕ 21), (ϕ 22), (ϕ 23), (ϕ 24), .ref a_value, .ref a_hole, (ϕ 27), (ϕ 28), .ref a_list, (ϕ 30), (ϕ 31), (ϕ 32), (ϕ 33), (ϕ 34), (ϕ 35), (ϕ 36), (ϕ 37), (ϕ 38), (ϕ 39), (ϕ 40), (ϕ 41), (ϕ 42), (ϕ 43)])), (a_wArgument, .inl (cI, 3, .inl (zN wa))), (a_value, .inl (cI, 540, .inl (upd vl (9 * li i + 6 + w) (if false = true then vl (9 * (li p9) + (wa w)) else nI 0)))), (a_hole, .inl (cZ, 540, .inl (zZ (va_up hl_ (9 * li i + 6 + w) (!false))))), (a_list, .inl (cI, 60, .inl (zN li)))] H := hP
        have hD : va_D A [(o, .inr (9, [(ϕ 0), (ϕ 1), (ϕ 2), (ϕ 3), (ϕ 4), (ϕ 5), (ϕ 6), (ϕ 7), (ϕ 8), (ϕ 9), (ϕ 10), .ref a_wArgument, (ϕ 12), (ϕ 13), (ϕ 14), (ϕ 15), (ϕ 16), (ϕ 17), (ϕ 18), (ϕ 19), (ϕ 20), (ϕ 21), (ϕ 22), (ϕ 23), (ϕ 24), .ref a_value, .ref a_hole, (ϕ 27), (ϕ 28), .ref a_list, (ϕ 30), (ϕ 31), (ϕ 32), (ϕ 33), (ϕ 34), (ϕ 35), (ϕ 36), (ϕ 37), (ϕ 38), (ϕ 39), (ϕ 40), (ϕ 41), (ϕ 42), (ϕ 43)])), (a_wArgument, .inl (cI, 3, .inl (zN wa))), (a_value, .inl (cI, 540, .inl (upd vl (9 * li i + 6 + w) (if false = true then vl (9 * (li p9) + (wa w)) else nI 0)))), (a_hole, .inl (cZ, 540, .inl (zZ (va_up hl_ (9 * li i + 6 + w) (!false))))), (a_list, .inl (cI, 60, .inl (zN li)))] := hD
        exact zk_vretW hx hb hr hlk hAe hQ hK ((!false, if false = true then vl (9 * (li p9) + (wa w)) else nI 0)) (by first | (rw [enc_r, if_pos rfl, argN_in ⟨h3, h9⟩]; show _ = enc (hl_ (9 * (li p9) + (wa w))) (vl (9 * (li p9) + (wa w))); rw [h61]; exact enc_f.symm) | (rw [enc_r, if_neg Bool.false_ne_true, argN_in ⟨h3, h9⟩]; show _ = enc (hl_ (9 * (li p9) + (wa w))) (vl (9 * (li p9) + (wa w))); rw [h61]; exact enc_t.symm) | (rw [enc_r, if_neg Bool.false_ne_true, argN_out (by omega)])) hP hD hS d_Mo_resultAt_88
      · skip
        refine lv_iconst (v := zb true) hx hb d_Mo_resultAt_64 (by decide) ?_
        refine lv_goto (tgt := 69) hx hb d_Mo_resultAt_65 rfl ?_
        refine lv_iload hx hb d_Mo_resultAt_69 (lv_at hl 1 rfl) ?_
        refine zk_ifb_eq (tgt := 84) hx hb d_Mo_resultAt_71 rfl (fun hq => absurd hq (by decide)) (fun _ => ?_)
        refine lv_aload_n hx hb d_Mo_resultAt_74 rfl (lv_at hl 2 rfl) ?_
        refine va_get (C := R_Mo) (T := F_Mo) (N := 44) hx hb hts (fun w h => List.mem_cons_of_mem _ (hin_Mo w h)) hown hK hP 0 rfl rfl 25 (by decide) (hts _ (List.mem_cons_of_mem _ fl_Mo_53)) (fun _ h => h) rfl d_Mo_resultAt_75 ?_
        refine lv_iload hx hb d_Mo_resultAt_78 (lv_at hl 0 rfl) ?_
        refine zk_iald hx hb hK hP 2 0 rfl rfl (by omega) (by omega) d_Mo_resultAt_80 ?_
        refine lv_goto (tgt := 85) hx hb d_Mo_resultAt_81 rfl ?_
        have hPc := hP.sub (ws' := [(o, .inr (9, [(ϕ 0), (ϕ 1), (ϕ 2), (ϕ 3), (ϕ 4), (ϕ 5), (ϕ 6), (ϕ 7), (ϕ 8), (ϕ 9), (ϕ 10), .ref a_wArgument, (ϕ 12), (ϕ 13), (ϕ 14), (ϕ 15), (ϕ 16), (ϕ 17), (ϕ 18), (ϕ 19), (ϕ 20), (ϕ 21), (ϕ 22), (ϕ 23), (ϕ 24), .ref a_value, .ref a_hole, (ϕ 27), (ϕ 28), .ref a_list, (ϕ 30), (ϕ 31), (ϕ 32), (ϕ 33), (ϕ 34), (ϕ 35), (ϕ 36), (ϕ 37), (ϕ 38), (ϕ 39), (ϕ 40), (ϕ 41), (ϕ 42), (ϕ 43)])), (a_value, .inl (cI, 540, .inl vl)), (a_hole, .inl (cZ, 540, .inl (zZ hl_))), (a_list, .inl (cI, 60, .inl (zN li)))]) [0, 2, 3, 4] rfl
        have hDc := hD.sub (ws' := [(o, .inr (9, [(ϕ 0), (ϕ 1), (ϕ 2), (ϕ 3), (ϕ 4), (ϕ 5), (ϕ 6), (ϕ 7), (ϕ 8), (ϕ 9), (ϕ 10), .ref a_wArgument, (ϕ 12), (ϕ 13), (ϕ 14), (ϕ 15), (ϕ 16), (ϕ 17), (ϕ 18), (ϕ 19), (ϕ 20), (ϕ 21), (ϕ 22), (ϕ 23), (ϕ 24), .ref a_value, .ref a_hole, (ϕ 27), (ϕ 28), .ref a_list, (ϕ 30), (ϕ 31), (ϕ 32), (ϕ 33), (ϕ 34), (ϕ 35), (ϕ 36), (ϕ 37), (ϕ 38), (ϕ 39), (ϕ 40), (ϕ 41), (ϕ 42), (ϕ 43)])), (a_value, .inl (cI, 540, .inl vl)), (a_hole, .inl (cZ, 540, .inl (zZ hl_))), (a_list, .inl (cI, 60, .inl (zN li)))]) [0, 2, 3, 4] (by decide) rfl
        refine zk_wv (wr := [(a_wArgument, .inl (cI, 3, .inl (zN wa)))]) (w2 := (fun _ => [(o, .inr (9, [(ϕ 0), (ϕ 1), (ϕ 2), (ϕ 3), (ϕ 4), (ϕ 5), (ϕ 6), (ϕ 7), (ϕ 8), (ϕ 9), (ϕ 10), .ref a_wArgument, (ϕ 12), (ϕ 13), (ϕ 14), (ϕ 15), (ϕ 16), (ϕ 17), (ϕ 18), (ϕ 19), (ϕ 20), (ϕ 21), (ϕ 22), (ϕ 23), (ϕ 24), .ref a_value, .ref a_hole, (ϕ 27), (ϕ 28), .ref a_list, (ϕ 30), (ϕ 31), (ϕ 32), (ϕ 33), (ϕ 34), (ϕ 35), (ϕ 36), (ϕ 37), (ϕ 38), (ϕ 39), (ϕ 40), (ϕ 41), (ϕ 42), (ϕ 43)])), (a_wArgument, .inl (cI, 3, .inl (zN wa))), (a_value, .inl (cI, 540, .inl (upd vl (9 * li i + 6 + w) (if true = true then vl (9 * (li p9) + (wa w)) else nI 0)))), (a_hole, .inl (cZ, 540, .inl (zZ (va_up hl_ (9 * li i + 6 + w) (!true))))), (a_list, .inl (cI, 60, .inl (zN li)))])) hP hD hS hA [0, 2, 3, 4] [1] [1, 0, 2, 3, 4] rfl rfl (by decide) (by decide) (fun _ => rfl) (by decide) (va_runV (As := [.int (nI w), .int (nI i), .int (zb true), .int (vl (9 * (li p9) + (wa w)))]) (rest := []) ⟨hx, hb, hml, hown, hts⟩ (c_Mo_result l D cI cL cZ cW cR _ o (vp_V [(ϕ 0), (ϕ 1), (ϕ 2), (ϕ 3), (ϕ 4), (ϕ 5), (ϕ 6), (ϕ 7), (ϕ 8), (ϕ 9), (ϕ 10), .ref a_wArgument, (ϕ 12), (ϕ 13), (ϕ 14), (ϕ 15), (ϕ 16), (ϕ 17), (ϕ 18), (ϕ 19), (ϕ 20), (ϕ 21), (ϕ 22), (ϕ 23), (ϕ 24), .ref a_value, .ref a_hole, (ϕ 27), (ϕ 28), .ref a_list, (ϕ 30), (ϕ 31), (ϕ 32), (ϕ 33), (ϕ 34), (ϕ 35), (ϕ 36), (ϕ 37), (ϕ 38), (ϕ 39), (ϕ 40), (ϕ 41), (ϕ 42), (ϕ 43)]) a_value a_hole a_list vl hl_ li w i true (vl (9 * (li p9) + (wa w))) (by omega) (by omega) (hli _ (by omega))) (cwV 4 hts (zk_gV (fun _ h => List.mem_cons_of_mem _ h) ml_Mo_199 im_Mo_result se_Mo_result in_Mo co_Mo_result) rfl rfl rfl ⟨rfl, hd_Mo_result⟩ ⟨Nat.le_of_ble_eq_true rfl, Nat.le_of_ble_eq_true rfl⟩) (zk_vw (q0 := 0) hN hK hPc hDc rfl rfl) rfl rfl hl.1 rfl (lv_room (Nat.le_of_ble_eq_true rfl)) d_Mo_resultAt_85 ⟨Nat.zero_le _, Nat.zero_le _⟩) (fun u9 H locs hpost hP hD hS => ?_)
        have hP : va_P D vwCl [(o, .inr (9, [(ϕ 0), (ϕ 1), (ϕ 2), (ϕ 3), (ϕ 4), (ϕ 5), (ϕ 6), (ϕ 7), (ϕ 8), (ϕ 9), (ϕ 10), .ref a_wArgument, (ϕ 12), (ϕ 13), (ϕ 14), (ϕ 15), (ϕ 16), (ϕ 17), (ϕ 18), (ϕ 19), (ϕ 20), (ϕ 21), (ϕ 22), (ϕ 23), (ϕ 24), .ref a_value, .ref a_hole, (ϕ 27), (ϕ 28), .ref a_list, (ϕ 30), (ϕ 31), (ϕ 32), (ϕ 33), (ϕ 34), (ϕ 35), (ϕ 36), (ϕ 37), (ϕ 38), (ϕ 39), (ϕ 40), (ϕ 41), (ϕ 42), (ϕ 43)])), (a_wArgument, .inl (cI, 3, .inl (zN wa))), (a_value, .inl (cI, 540, .inl (upd vl (9 * li i + 6 + w) (if true = true then vl (9 * (li p9) + (wa w)) else nI 0)))), (a_hole, .inl (cZ, 540, .inl (zZ (va_up hl_ (9 * li i + 6 + w) (!true))))), (a_list, .inl (cI, 60, .inl (zN li)))] H := hP
        have hD : va_D A [(o, .inr (9, [(ϕ 0), (ϕ 1), (ϕ 2), (ϕ 3), (ϕ 4), (ϕ 5), (ϕ 6), (ϕ 7), (ϕ 8), (ϕ 9), (ϕ 10), .ref a_wArgument, (ϕ 12), (ϕ 13), (ϕ 14), (ϕ 15), (ϕ 16), (ϕ 17), (ϕ 18), (ϕ 19), (ϕ 20), (ϕ 21), (ϕ 22), (ϕ 23), (ϕ 24), .ref a_value, .ref a_hole, (ϕ 27), (ϕ 28), .ref a_list, (ϕ 30), (ϕ 31), (ϕ 32), (ϕ 33), (ϕ 34), (ϕ 35), (ϕ 36), (ϕ 37), (ϕ 38), (ϕ 39), (ϕ 40), (ϕ 41), (ϕ 42), (ϕ 43)])), (a_wArgument, .inl (cI, 3, .inl (zN wa))), (a_value, .inl (cI, 540, .inl (upd vl (9 * li i + 6 + w) (if true = true then vl (9 * (li p9) + (wa w)) else nI 0)))), (a_hole, .inl (cZ, 540, .inl (zZ (va_up hl_ (9 * li i + 6 + w) (!true))))), (a_list, .inl (cI, 60, .inl (zN li)))] := hD
        exact zk_vretW hx hb hr hlk hAe hQ hK ((!true, if true = true then vl (9 * (li p9) + (wa w)) else nI 0)) (by first | (rw [enc_r, if_pos rfl, argN_in ⟨h3, h9⟩]; show _ = enc (hl_ (9 * (li p9) + (wa w))) (vl (9 * (li p9) + (wa w))); rw [h61]; exact enc_f.symm) | (rw [enc_r, if_neg Bool.false_ne_true, argN_in ⟨h3, h9⟩]; show _ = enc (hl_ (9 * (li p9) + (wa w))) (vl (9 * (li p9) + (wa w))); rw [h61]; exact enc_t.symm) | (rw [enc_r, if_neg Bool.false_ne_true, argN_out (by omega)])) hP hD hS d_Mo_resultAt_88
set_option maxHeartbeats 4000000 in
set_option maxRecDepth 100000 in
theorem c_Mo_resultAt_m (l : Launch) (D : va_G) (cI cL cZ cW cR : ClassId) (sz : Nat) (o : Nat) (ϕ : Nat → Value) (a_wArgument a_value a_hole a_list : Nat) (wa : Nat → Nat) (vl : Nat → Int32) (hl_ : Nat → Bool) (li : Nat → Nat) (x9 : Int32) (hx9 : x9 < 0) (w i st en : Nat) (hw : w < 3) (hi : i < 60) (hst : st < 1000) (hen : en ≤ 60) (hwa : ∀ z, z < 3 → wa z < 6) (hli : ∀ z, z < 60 → li z < 60) : Met l y_Mo_resultAt ws_Mo_resultAt rm1_30 (zPw D vwCl (zT cI cL cZ cW cR) [(o, .inr (9, [(ϕ 0), (ϕ 1), (ϕ 2), (ϕ 3), (ϕ 4), (ϕ 5), (ϕ 6), (ϕ 7), (ϕ 8), (ϕ 9), (ϕ 10), .ref a_wArgument, (ϕ 12), (ϕ 13), (ϕ 14), (ϕ 15), (ϕ 16), (ϕ 17), (ϕ 18), (ϕ 19), (ϕ 20), (ϕ 21), (ϕ 22), (ϕ 23), (ϕ 24), .ref a_value, .ref a_hole, (ϕ 27), (ϕ 28), .ref a_list, (ϕ 30), (ϕ 31), (ϕ 32), (ϕ 33), (ϕ 34), (ϕ 35), (ϕ 36), (ϕ 37), (ϕ 38), (ϕ 39), (ϕ 40), (ϕ 41), (ϕ 42), (ϕ 43)])), (a_wArgument, .inl (cI, 3, .inl (zN wa))), (a_value, .inl (cI, 540, .inl vl)), (a_hole, .inl (cZ, 540, .inl (zZ hl_))), (a_list, .inl (cI, 60, .inl (zN li)))] sz [.ref o, .int (nI w), .int (nI i), .int x9, .int (nI st), .int (nI en)]) (zQv D vwCl (zT cI cL cZ cW cR) [(o, .inr (9, [(ϕ 0), (ϕ 1), (ϕ 2), (ϕ 3), (ϕ 4), (ϕ 5), (ϕ 6), (ϕ 7), (ϕ 8), (ϕ 9), (ϕ 10), .ref a_wArgument, (ϕ 12), (ϕ 13), (ϕ 14), (ϕ 15), (ϕ 16), (ϕ 17), (ϕ 18), (ϕ 19), (ϕ 20), (ϕ 21), (ϕ 22), (ϕ 23), (ϕ 24), .ref a_value, .ref a_hole, (ϕ 27), (ϕ 28), .ref a_list, (ϕ 30), (ϕ 31), (ϕ 32), (ϕ 33), (ϕ 34), (ϕ 35), (ϕ 36), (ϕ 37), (ϕ 38), (ϕ 39), (ϕ 40), (ϕ 41), (ϕ 42), (ϕ 43)])), (a_wArgument, .inl (cI, 3, .inl (zN wa))), (a_value, .inl (cI, 540, .inl vl)), (a_hole, .inl (cZ, 540, .inl (zZ hl_))), (a_list, .inl (cI, 60, .inl (zN li)))] sz (fun u : Bool × Int32 => enc u.1 u.2 = -1099511627776) (fun u => [(o, .inr (9, [(ϕ 0), (ϕ 1), (ϕ 2), (ϕ 3), (ϕ 4), (ϕ 5), (ϕ 6), (ϕ 7), (ϕ 8), (ϕ 9), (ϕ 10), .ref a_wArgument, (ϕ 12), (ϕ 13), (ϕ 14), (ϕ 15), (ϕ 16), (ϕ 17), (ϕ 18), (ϕ 19), (ϕ 20), (ϕ 21), (ϕ 22), (ϕ 23), (ϕ 24), .ref a_value, .ref a_hole, (ϕ 27), (ϕ 28), .ref a_list, (ϕ 30), (ϕ 31), (ϕ 32), (ϕ 33), (ϕ 34), (ϕ 35), (ϕ 36), (ϕ 37), (ϕ 38), (ϕ 39), (ϕ 40), (ϕ 41), (ϕ 42), (ϕ 43)])), (a_wArgument, .inl (cI, 3, .inl (zN wa))), (a_value, .inl (cI, 540, .inl (upd vl (9 * (li i) + 6 + w) u.2))), (a_hole, .inl (cZ, 540, .inl (zZ (va_up hl_ (9 * (li i) + 6 + w) u.1)))), (a_list, .inl (cI, 60, .inl (zN li)))])) 0 0 (va_A [(o, .inr (9, [(ϕ 0), (ϕ 1), (ϕ 2), (ϕ 3), (ϕ 4), (ϕ 5), (ϕ 6), (ϕ 7), (ϕ 8), (ϕ 9), (ϕ 10), .ref a_wArgument, (ϕ 12), (ϕ 13), (ϕ 14), (ϕ 15), (ϕ 16), (ϕ 17), (ϕ 18), (ϕ 19), (ϕ 20), (ϕ 21), (ϕ 22), (ϕ 23), (ϕ 24), .ref a_value, .ref a_hole, (ϕ 27), (ϕ 28), .ref a_list, (ϕ 30), (ϕ 31), (ϕ 32), (ϕ 33), (ϕ 34), (ϕ 35), (ϕ 36), (ϕ 37), (ϕ 38), (ϕ 39), (ϕ 40), (ϕ 41), (ϕ 42), (ϕ 43)])), (a_wArgument, .inl (cI, 3, .inl (zN wa))), (a_value, .inl (cI, 540, .inl vl)), (a_hole, .inl (cZ, 540, .inl (zZ hl_))), (a_list, .inl (cI, 60, .inl (zN li)))] sz) := by
  refine zk_enterW (cc := b_Mo_resultAt) (maxL := 8) (ret := none) (by decide) rfl (Nat.le_of_ble_eq_true rfl) ?_
  intro p e s m args below meth c ls Q hx hb hml hr hlk hown hts hP hK hN hl hin hsz A hAe hA hD hS hQ
  subst hsz
  have hl : lv_has ls 8 [(0, .ref o), (1, .int (nI w)), (2, .int (nI i)), (3, .int x9), (4, .int (nI st)), (5, .int (nI en))] := hl
  have hwa0 := hwa w hw
  refine lv_iload_n hx hb d_Mo_resultAt_0 rfl (lv_at hl 3 rfl) ?_
  refine lv_iload hx hb d_Mo_resultAt_1 (lv_at hl 4 rfl) ?_
  refine lv_icmp_lt (tgt := 16) hx hb d_Mo_resultAt_3 rfl (fun _ => ?_) (fun hq => absurd hq (fun q => q (zk_neg hx9 (by omega))))
  refine lv_iconst (v := zb false) hx hb d_Mo_resultAt_16 (by decide) ?_
  refine lv_istore (lv' := [(6, .int (zb false)), (0, .ref o), (1, .int (nI w)), (2, .int (nI i)), (3, .int x9), (4, .int (nI st)), (5, .int (nI en))]) hx hb d_Mo_resultAt_17 hl (by decide) rfl (fun ls hl => ?_)
  refine lv_iload hx hb d_Mo_resultAt_19 (lv_at hl 0 rfl) ?_
  refine zk_ifb_eq (tgt := 43) hx hb d_Mo_resultAt_21 rfl (fun _ => ?_) (fun hq => absurd hq (by decide))
  refine lv_iconst (v := nI 0) hx hb d_Mo_resultAt_43 (by decide) ?_
  refine lv_istore (lv' := [(7, .int (nI 0)), (6, .int (zb false)), (0, .ref o), (1, .int (nI w)), (2, .int (nI i)), (3, .int x9), (4, .int (nI st)), (5, .int (nI en))]) hx hb d_Mo_resultAt_44 hl (by decide) rfl (fun ls hl => ?_)
  refine lv_aload_n hx hb d_Mo_resultAt_46 rfl (lv_at hl 2 rfl) ?_
  refine lv_iload_n hx hb d_Mo_resultAt_47 rfl (lv_at hl 3 rfl) ?_
  refine lv_iload_n hx hb d_Mo_resultAt_48 rfl (lv_at hl 4 rfl) ?_
  refine lv_iload hx hb d_Mo_resultAt_49 (lv_at hl 1 rfl) ?_
  refine zk_ifb_eq (tgt := 68) hx hb d_Mo_resultAt_51 rfl (fun _ => ?_) (fun hq => absurd hq (by decide))
  refine lv_iconst (v := zb false) hx hb d_Mo_resultAt_68 (by decide) ?_
  refine lv_iload hx hb d_Mo_resultAt_69 (lv_at hl 1 rfl) ?_
  refine zk_ifb_eq (tgt := 84) hx hb d_Mo_resultAt_71 rfl (fun _ => ?_) (fun hq => absurd hq (by decide))
  refine lv_iconst (v := nI 0) hx hb d_Mo_resultAt_84 (by decide) ?_
  have hPc := hP.sub (ws' := [(o, .inr (9, [(ϕ 0), (ϕ 1), (ϕ 2), (ϕ 3), (ϕ 4), (ϕ 5), (ϕ 6), (ϕ 7), (ϕ 8), (ϕ 9), (ϕ 10), .ref a_wArgument, (ϕ 12), (ϕ 13), (ϕ 14), (ϕ 15), (ϕ 16), (ϕ 17), (ϕ 18), (ϕ 19), (ϕ 20), (ϕ 21), (ϕ 22), (ϕ 23), (ϕ 24), .ref a_value, .ref a_hole, (ϕ 27), (ϕ 28), .ref a_list, (ϕ 30), (ϕ 31), (ϕ 32), (ϕ 33), (ϕ 34), (ϕ 35), (ϕ 36), (ϕ 37), (ϕ 38), (ϕ 39), (ϕ 40), (ϕ 41), (ϕ 42), (ϕ 43)])), (a_value, .inl (cI, 540, .inl vl)), (a_hole, .inl (cZ, 540, .inl (zZ hl_))), (a_list, .inl (cI, 60, .inl (zN li)))]) [0, 2, 3, 4] rfl
  have hDc := hD.sub (ws' := [(o, .inr (9, [(ϕ 0), (ϕ 1), (ϕ 2), (ϕ 3), (ϕ 4), (ϕ 5), (ϕ 6), (ϕ 7), (ϕ 8), (ϕ 9), (ϕ 10), .ref a_wArgument, (ϕ 12), (ϕ 13), (ϕ 14), (ϕ 15), (ϕ 16), (ϕ 17), (ϕ 18), (ϕ 19), (ϕ 20), (ϕ 21), (ϕ 22), (ϕ 23), (ϕ 24), .ref a_value, .ref a_hole, (ϕ 27), (ϕ 28), .ref a_list, (ϕ 30), (ϕ 31), (ϕ 32), (ϕ 33), (ϕ 34), (ϕ 35), (ϕ 36), (ϕ 37), (ϕ 38), (ϕ 39), (ϕ 40), (ϕ 41), (ϕ 42), (ϕ 43)])), (a_value, .inl (cI, 540, .inl vl)), (a_hole, .inl (cZ, 540, .inl (zZ hl_))), (a_list, .inl (cI, 60, .inl (zN li)))]) [0, 2, 3, 4] (by decide) rfl
  refine zk_wv (wr := [(a_wArgument, .inl (cI, 3, .inl (zN wa)))]) (w2 := (fun _ => [(o, .inr (9, [(ϕ 0), (ϕ 1), (ϕ 2), (ϕ 3), (ϕ 4), (ϕ 5), (ϕ 6), (ϕ 7), (ϕ 8), (ϕ 9), (ϕ 10), .ref a_wArgument, (ϕ 12), (ϕ 13), (ϕ 14), (ϕ 15), (ϕ 16), (ϕ 17), (ϕ 18), (ϕ 19), (ϕ 20), (ϕ 21), (ϕ 22), (ϕ 23), (ϕ 24), .ref a_value, .ref a_hole, (ϕ 27), (ϕ 28), .ref a_list, (ϕ 30), (ϕ 31), (ϕ 32), (ϕ 33), (ϕ 34), (ϕ 35), (ϕ 36), (ϕ 37), (ϕ 38), (ϕ 39), (ϕ 40), (ϕ 41), (ϕ 42), (ϕ 43)])), (a_wArgument, .inl (cI, 3, .inl (zN wa))), (a_value, .inl (cI, 540, .inl (upd vl (9 * li i + 6 + w) (if false = true then nI 0 else nI 0)))), (a_hole, .inl (cZ, 540, .inl (zZ (va_up hl_ (9 * li i + 6 + w) (!false))))), (a_list, .inl (cI, 60, .inl (zN li)))])) hP hD hS hA [0, 2, 3, 4] [1] [1, 0, 2, 3, 4] rfl rfl (by decide) (by decide) (fun _ => rfl) (by decide) (va_runV (As := [.int (nI w), .int (nI i), .int (zb false), .int (nI 0)]) (rest := []) ⟨hx, hb, hml, hown, hts⟩ (c_Mo_result l D cI cL cZ cW cR _ o (vp_V [(ϕ 0), (ϕ 1), (ϕ 2), (ϕ 3), (ϕ 4), (ϕ 5), (ϕ 6), (ϕ 7), (ϕ 8), (ϕ 9), (ϕ 10), .ref a_wArgument, (ϕ 12), (ϕ 13), (ϕ 14), (ϕ 15), (ϕ 16), (ϕ 17), (ϕ 18), (ϕ 19), (ϕ 20), (ϕ 21), (ϕ 22), (ϕ 23), (ϕ 24), .ref a_value, .ref a_hole, (ϕ 27), (ϕ 28), .ref a_list, (ϕ 30), (ϕ 31), (ϕ 32), (ϕ 33), (ϕ 34), (ϕ 35), (ϕ 36), (ϕ 37), (ϕ 38), (ϕ 39), (ϕ 40), (ϕ 41), (ϕ 42), (ϕ 43)]) a_value a_hole a_list vl hl_ li w i false (nI 0) (by omega) (by omega) (hli _ (by omega))) (cwV 4 hts (zk_gV (fun _ h => List.mem_cons_of_mem _ h) ml_Mo_199 im_Mo_result se_Mo_result in_Mo co_Mo_result) rfl rfl rfl ⟨rfl, hd_Mo_result⟩ ⟨Nat.le_of_ble_eq_true rfl, Nat.le_of_ble_eq_true rfl⟩) (zk_vw (q0 := 0) hN hK hPc hDc rfl rfl) rfl rfl hl.1 rfl (lv_room (Nat.le_of_ble_eq_true rfl)) d_Mo_resultAt_85 ⟨Nat.zero_le _, Nat.zero_le _⟩) (fun u9 H locs hpost hP hD hS => ?_)
  have hP : va_P D vwCl [(o, .inr (9, [(ϕ 0), (ϕ 1), (ϕ 2), (ϕ 3), (ϕ 4), (ϕ 5), (ϕ 6), (ϕ 7), (ϕ 8), (ϕ 9), (ϕ 10), .ref a_wArgument, (ϕ 12), (ϕ 13), (ϕ 14), (ϕ 15), (ϕ 16), (ϕ 17), (ϕ 18), (ϕ 19), (ϕ 20), (ϕ 21), (ϕ 22), (ϕ 23), (ϕ 24), .ref a_value, .ref a_hole, (ϕ 27), (ϕ 28), .ref a_list, (ϕ 30), (ϕ 31), (ϕ 32), (ϕ 33), (ϕ 34), (ϕ 35), (ϕ 36), (ϕ 37), (ϕ 38), (ϕ 39), (ϕ 40), (ϕ 41), (ϕ 42), (ϕ 43)])), (a_wArgument, .inl (cI, 3, .inl (zN wa))), (a_value, .inl (cI, 540, .inl (upd vl (9 * li i + 6 + w) (if false = true then nI 0 else nI 0)))), (a_hole, .inl (cZ, 540, .inl (zZ (va_up hl_ (9 * li i + 6 + w) (!false))))), (a_list, .inl (cI, 60, .inl (zN li)))] H := hP
  have hD : va_D A [(o, .inr (9, [(ϕ 0), (ϕ 1), (ϕ 2), (ϕ 3), (ϕ 4), (ϕ 5), (ϕ 6), (ϕ 7), (ϕ 8), (ϕ 9), (ϕ 10), .ref a_wArgument, (ϕ 12), (ϕ 13), (ϕ 14), (ϕ 15), (ϕ 16), (ϕ 17), (ϕ 18), (ϕ 19), (ϕ 20), (ϕ 21), (ϕ 22), (ϕ 23), (ϕ 24), .ref a_value, .ref a_hole, (ϕ 27), (ϕ 28), .ref a_list, (ϕ 30), (ϕ 31), (ϕ 32), (ϕ 33), (ϕ 34), (ϕ 35), (ϕ 36), (ϕ 37), (ϕ 38), (ϕ 39), (ϕ 40), (ϕ 41), (ϕ 42), (ϕ 43)])), (a_wArgument, .inl (cI, 3, .inl (zN wa))), (a_value, .inl (cI, 540, .inl (upd vl (9 * li i + 6 + w) (if false = true then nI 0 else nI 0)))), (a_hole, .inl (cZ, 540, .inl (zZ (va_up hl_ (9 * li i + 6 + w) (!false))))), (a_list, .inl (cI, 60, .inl (zN li)))] := hD
  exact zk_vretW hx hb hr hlk hAe hQ hK ((!false, if false = true then nI 0 else nI 0)) (by rw [enc_r, if_neg Bool.false_ne_true]) hP hD hS d_Mo_resultAt_88
theorem c_Mo_resultAt_o (l : Launch) (D : va_G) (cI cL cZ cW cR : ClassId) (sz : Nat) (o : Nat) (ϕ : Nat → Value) (a_wArgument a_value a_hole a_list : Nat) (wa : Nat → Nat) (vl : Nat → Int32) (hl_ : Nat → Bool) (li : Nat → Nat) (pq : Option Nat) (hpq : ∀ j, pq = some j → j < 1000) (w i st en : Nat) (hw : w < 3) (hi : i < 60) (hst : st < 1000) (hen : en ≤ 60) (hwa : ∀ z, z < 3 → wa z < 6) (hli : ∀ z, z < 60 → li z < 60) : Met l y_Mo_resultAt ws_Mo_resultAt rm1_30 (zPw D vwCl (zT cI cL cZ cW cR) [(o, .inr (9, [(ϕ 0), (ϕ 1), (ϕ 2), (ϕ 3), (ϕ 4), (ϕ 5), (ϕ 6), (ϕ 7), (ϕ 8), (ϕ 9), (ϕ 10), .ref a_wArgument, (ϕ 12), (ϕ 13), (ϕ 14), (ϕ 15), (ϕ 16), (ϕ 17), (ϕ 18), (ϕ 19), (ϕ 20), (ϕ 21), (ϕ 22), (ϕ 23), (ϕ 24), .ref a_value, .ref a_hole, (ϕ 27), (ϕ 28), .ref a_list, (ϕ 30), (ϕ 31), (ϕ 32), (ϕ 33), (ϕ 34), (ϕ 35), (ϕ 36), (ϕ 37), (ϕ 38), (ϕ 39), (ϕ 40), (ϕ 41), (ϕ 42), (ϕ 43)])), (a_wArgument, .inl (cI, 3, .inl (zN wa))), (a_value, .inl (cI, 540, .inl vl)), (a_hole, .inl (cZ, 540, .inl (zZ hl_))), (a_list, .inl (cI, 60, .inl (zN li)))] sz [.ref o, .int (nI w), .int (nI i), .int (oI pq), .int (nI st), .int (nI en)]) (zQv D vwCl (zT cI cL cZ cW cR) [(o, .inr (9, [(ϕ 0), (ϕ 1), (ϕ 2), (ϕ 3), (ϕ 4), (ϕ 5), (ϕ 6), (ϕ 7), (ϕ 8), (ϕ 9), (ϕ 10), .ref a_wArgument, (ϕ 12), (ϕ 13), (ϕ 14), (ϕ 15), (ϕ 16), (ϕ 17), (ϕ 18), (ϕ 19), (ϕ 20), (ϕ 21), (ϕ 22), (ϕ 23), (ϕ 24), .ref a_value, .ref a_hole, (ϕ 27), (ϕ 28), .ref a_list, (ϕ 30), (ϕ 31), (ϕ 32), (ϕ 33), (ϕ 34), (ϕ 35), (ϕ 36), (ϕ 37), (ϕ 38), (ϕ 39), (ϕ 40), (ϕ 41), (ϕ 42), (ϕ 43)])), (a_wArgument, .inl (cI, 3, .inl (zN wa))), (a_value, .inl (cI, 540, .inl vl)), (a_hole, .inl (cZ, 540, .inl (zZ hl_))), (a_list, .inl (cI, 60, .inl (zN li)))] sz (fun u : Bool × Int32 => enc u.1 u.2 = argO (fun z => mCol hl_ vl (wa w) (li z)) pq st en) (fun u => [(o, .inr (9, [(ϕ 0), (ϕ 1), (ϕ 2), (ϕ 3), (ϕ 4), (ϕ 5), (ϕ 6), (ϕ 7), (ϕ 8), (ϕ 9), (ϕ 10), .ref a_wArgument, (ϕ 12), (ϕ 13), (ϕ 14), (ϕ 15), (ϕ 16), (ϕ 17), (ϕ 18), (ϕ 19), (ϕ 20), (ϕ 21), (ϕ 22), (ϕ 23), (ϕ 24), .ref a_value, .ref a_hole, (ϕ 27), (ϕ 28), .ref a_list, (ϕ 30), (ϕ 31), (ϕ 32), (ϕ 33), (ϕ 34), (ϕ 35), (ϕ 36), (ϕ 37), (ϕ 38), (ϕ 39), (ϕ 40), (ϕ 41), (ϕ 42), (ϕ 43)])), (a_wArgument, .inl (cI, 3, .inl (zN wa))), (a_value, .inl (cI, 540, .inl (upd vl (9 * (li i) + 6 + w) u.2))), (a_hole, .inl (cZ, 540, .inl (zZ (va_up hl_ (9 * (li i) + 6 + w) u.1)))), (a_list, .inl (cI, 60, .inl (zN li)))])) 0 0 (va_A [(o, .inr (9, [(ϕ 0), (ϕ 1), (ϕ 2), (ϕ 3), (ϕ 4), (ϕ 5), (ϕ 6), (ϕ 7), (ϕ 8), (ϕ 9), (ϕ 10), .ref a_wArgument, (ϕ 12), (ϕ 13), (ϕ 14), (ϕ 15), (ϕ 16), (ϕ 17), (ϕ 18), (ϕ 19), (ϕ 20), (ϕ 21), (ϕ 22), (ϕ 23), (ϕ 24), .ref a_value, .ref a_hole, (ϕ 27), (ϕ 28), .ref a_list, (ϕ 30), (ϕ 31), (ϕ 32), (ϕ 33), (ϕ 34), (ϕ 35), (ϕ 36), (ϕ 37), (ϕ 38), (ϕ 39), (ϕ 40), (ϕ 41), (ϕ 42), (ϕ 43)])), (a_wArgument, .inl (cI, 3, .inl (zN wa))), (a_value, .inl (cI, 540, .inl vl)), (a_hole, .inl (cZ, 540, .inl (zZ hl_))), (a_list, .inl (cI, 60, .inl (zN li)))] sz) := by
  cases pq with
  | none => exact c_Mo_resultAt_m l D cI cL cZ cW cR sz o ϕ a_wArgument a_value a_hole a_list wa vl hl_ li (-1) (by decide) w i st en hw hi hst hen hwa hli
  | some p9 => exact c_Mo_resultAt_n l D cI cL cZ cW cR sz o ϕ a_wArgument a_value a_hole a_list wa vl hl_ li p9 (hpq p9 rfl) w i st en hw hi hst hen hwa hli
set_option maxHeartbeats 4000000 in
set_option maxRecDepth 100000 in
theorem c_Mo_rank (l : Launch) (D : va_G) (cI cL cZ cW cR : ClassId) (sz : Nat) (o : Nat) (ϕ : Nat → Value) (a_wOrder a_value a_hole a_list : Nat) (oo : Nat → Option Nat) (vl : Nat → Int32) (hl_ : Nat → Bool) (li : Nat → Nat) (w st i : Nat) (b9 : Bool) (hw : w < 3) (hst : st ≤ i) (hi : i < 60) (hoo : ∀ z q, oo z = some q → q < 9) (hli : ∀ z, z < 60 → li z < 60) : Met l y_Mo_rank ws_Mo_rank rm2_60 (zPw D vwCl (zT cI cL cZ cW cR) [(o, .inr (9, [(ϕ 0), (ϕ 1), (ϕ 2), (ϕ 3), (ϕ 4), (ϕ 5), (ϕ 6), (ϕ 7), (ϕ 8), (ϕ 9), (ϕ 10), (ϕ 11), (ϕ 12), (ϕ 13), .ref a_wOrder, (ϕ 15), (ϕ 16), (ϕ 17), (ϕ 18), (ϕ 19), (ϕ 20), (ϕ 21), (ϕ 22), (ϕ 23), (ϕ 24), .ref a_value, .ref a_hole, (ϕ 27), (ϕ 28), .ref a_list, (ϕ 30), (ϕ 31), (ϕ 32), (ϕ 33), (ϕ 34), (ϕ 35), (ϕ 36), (ϕ 37), (ϕ 38), (ϕ 39), (ϕ 40), (ϕ 41), (ϕ 42), (ϕ 43)])), (a_wOrder, .inl (cI, 3, .inl (zO oo))), (a_value, .inl (cI, 540, .inl vl)), (a_hole, .inl (cZ, 540, .inl (zZ hl_))), (a_list, .inl (cI, 60, .inl (zN li)))] sz [.ref o, .int (nI w), .int (nI st), .int (nI i), .int (zb b9)]) (zQv D vwCl (zT cI cL cZ cW cR) [(o, .inr (9, [(ϕ 0), (ϕ 1), (ϕ 2), (ϕ 3), (ϕ 4), (ϕ 5), (ϕ 6), (ϕ 7), (ϕ 8), (ϕ 9), (ϕ 10), (ϕ 11), (ϕ 12), (ϕ 13), .ref a_wOrder, (ϕ 15), (ϕ 16), (ϕ 17), (ϕ 18), (ϕ 19), (ϕ 20), (ϕ 21), (ϕ 22), (ϕ 23), (ϕ 24), .ref a_value, .ref a_hole, (ϕ 27), (ϕ 28), .ref a_list, (ϕ 30), (ϕ 31), (ϕ 32), (ϕ 33), (ϕ 34), (ϕ 35), (ϕ 36), (ϕ 37), (ϕ 38), (ϕ 39), (ϕ 40), (ϕ 41), (ϕ 42), (ϕ 43)])), (a_wOrder, .inl (cI, 3, .inl (zO oo))), (a_value, .inl (cI, 540, .inl vl)), (a_hole, .inl (cZ, 540, .inl (zZ hl_))), (a_list, .inl (cI, 60, .inl (zN li)))] sz (fun u : Bool × Int32 => enc u.1 u.2 = (nI (rkC (pEq (mOl hl_ vl li (oo w))) b9 st i (i - st) + 1)).toInt64) (fun u => [(o, .inr (9, [(ϕ 0), (ϕ 1), (ϕ 2), (ϕ 3), (ϕ 4), (ϕ 5), (ϕ 6), (ϕ 7), (ϕ 8), (ϕ 9), (ϕ 10), (ϕ 11), (ϕ 12), (ϕ 13), .ref a_wOrder, (ϕ 15), (ϕ 16), (ϕ 17), (ϕ 18), (ϕ 19), (ϕ 20), (ϕ 21), (ϕ 22), (ϕ 23), (ϕ 24), .ref a_value, .ref a_hole, (ϕ 27), (ϕ 28), .ref a_list, (ϕ 30), (ϕ 31), (ϕ 32), (ϕ 33), (ϕ 34), (ϕ 35), (ϕ 36), (ϕ 37), (ϕ 38), (ϕ 39), (ϕ 40), (ϕ 41), (ϕ 42), (ϕ 43)])), (a_wOrder, .inl (cI, 3, .inl (zO oo))), (a_value, .inl (cI, 540, .inl (upd vl (9 * (li i) + 6 + w) u.2))), (a_hole, .inl (cZ, 540, .inl (zZ (va_up hl_ (9 * (li i) + 6 + w) u.1)))), (a_list, .inl (cI, 60, .inl (zN li)))])) 0 0 (va_A [(o, .inr (9, [(ϕ 0), (ϕ 1), (ϕ 2), (ϕ 3), (ϕ 4), (ϕ 5), (ϕ 6), (ϕ 7), (ϕ 8), (ϕ 9), (ϕ 10), (ϕ 11), (ϕ 12), (ϕ 13), .ref a_wOrder, (ϕ 15), (ϕ 16), (ϕ 17), (ϕ 18), (ϕ 19), (ϕ 20), (ϕ 21), (ϕ 22), (ϕ 23), (ϕ 24), .ref a_value, .ref a_hole, (ϕ 27), (ϕ 28), .ref a_list, (ϕ 30), (ϕ 31), (ϕ 32), (ϕ 33), (ϕ 34), (ϕ 35), (ϕ 36), (ϕ 37), (ϕ 38), (ϕ 39), (ϕ 40), (ϕ 41), (ϕ 42), (ϕ 43)])), (a_wOrder, .inl (cI, 3, .inl (zO oo))), (a_value, .inl (cI, 540, .inl vl)), (a_hole, .inl (cZ, 540, .inl (zZ hl_))), (a_list, .inl (cI, 60, .inl (zN li)))] sz) := by
  refine zk_enterW (cc := b_Mo_rank) (maxL := 9) (ret := none) (by decide) rfl (Nat.le_of_ble_eq_true rfl) ?_
  intro p e s m args below meth c ls Q hx hb hml hr hlk hown hts hP hK hN hl hin hsz A hAe hA hD hS hQ
  subst hsz
  have hl : lv_has ls 9 [(0, .ref o), (1, .int (nI w)), (2, .int (nI st)), (3, .int (nI i)), (4, .int (zb b9))] := hl
  refine lv_iconst (v := nI 0) hx hb d_Mo_rank_0 (by decide) ?_
  refine lv_istore (lv' := [(5, .int (nI 0)), (0, .ref o), (1, .int (nI w)), (2, .int (nI st)), (3, .int (nI i)), (4, .int (zb b9))]) hx hb d_Mo_rank_1 hl (by decide) rfl (fun ls hl => ?_)
  refine lv_iload_n hx hb d_Mo_rank_3 rfl (lv_at hl 3 rfl) ?_
  refine lv_istore (lv' := [(6, .int (nI st)), (5, .int (nI 0)), (0, .ref o), (1, .int (nI w)), (2, .int (nI st)), (3, .int (nI i)), (4, .int (zb b9))]) hx hb d_Mo_rank_4 hl (by decide) rfl (fun ls hl => ?_)
  have lb6 : ∀ (fuel6 : Nat) (d : Nat) (y : Nat), (st + d ≤ i) → (y = rkC (pEq (mOl hl_ vl li (oo w))) b9 st i d) → i - (st + d) < fuel6 → ∀ (ls : Array Slot) (H : Heap) (locs : List Loc), lv_has ls 9 [(0, .ref o), (1, .int (nI w)), (2, .int (nI st)), (3, .int (nI i)), (4, .int (zb b9)), (5, .int (nI y)), (6, .int (nI (st + d)))] → va_P D vwCl [(o, .inr (9, [(ϕ 0), (ϕ 1), (ϕ 2), (ϕ 3), (ϕ 4), (ϕ 5), (ϕ 6), (ϕ 7), (ϕ 8), (ϕ 9), (ϕ 10), (ϕ 11), (ϕ 12), (ϕ 13), .ref a_wOrder, (ϕ 15), (ϕ 16), (ϕ 17), (ϕ 18), (ϕ 19), (ϕ 20), (ϕ 21), (ϕ 22), (ϕ 23), (ϕ 24), .ref a_value, .ref a_hole, (ϕ 27), (ϕ 28), .ref a_list, (ϕ 30), (ϕ 31), (ϕ 32), (ϕ 33), (ϕ 34), (ϕ 35), (ϕ 36), (ϕ 37), (ϕ 38), (ϕ 39), (ϕ 40), (ϕ 41), (ϕ 42), (ϕ 43)])), (a_wOrder, .inl (cI, 3, .inl (zO oo))), (a_value, .inl (cI, 540, .inl vl)), (a_hole, .inl (cZ, 540, .inl (zZ hl_))), (a_list, .inl (cI, 60, .inl (zN li)))] H → va_D A [(o, .inr (9, [(ϕ 0), (ϕ 1), (ϕ 2), (ϕ 3), (ϕ 4), (ϕ 5), (ϕ 6), (ϕ 7), (ϕ 8), (ϕ 9), (ϕ 10), (ϕ 11), (ϕ 12), (ϕ 13), .ref a_wOrder, (ϕ 15), (ϕ 16), (ϕ 17), (ϕ 18), (ϕ 19), (ϕ 20), (ϕ 21), (ϕ 22), (ϕ 23), (ϕ 24), .ref a_value, .ref a_hole, (ϕ 27), (ϕ 28), .ref a_list, (ϕ 30), (ϕ 31), (ϕ 32), (ϕ 33), (ϕ 34), (ϕ 35), (ϕ 36), (ϕ 37), (ϕ 38), (ϕ 39), (ϕ 40), (ϕ 41), (ϕ 42), (ϕ 43)])), (a_wOrder, .inl (cI, 3, .inl (zO oo))), (a_value, .inl (cI, 540, .inl vl)), (a_hole, .inl (cZ, 540, .inl (zZ hl_))), (a_list, .inl (cI, 60, .inl (zN li)))] → va_S A s.heap H locs → W p l e rm2_60 s m args below meth c H locs 0 0 Q (F0 m 6 ls []) := by
    intro fuel6
    induction fuel6 with
    | zero => intro d y hd hy hfu6; exact absurd hfu6 (Nat.not_lt_zero _)
    | succ fuel6 ih6 =>
      intro d y hd hy hfu6 ls H locs hl hP hD hS
      refine lv_iload hx hb d_Mo_rank_6 (lv_at hl 6 rfl) ?_
      refine lv_iload_n hx hb d_Mo_rank_8 rfl (lv_at hl 3 rfl) ?_
      refine zk_icmp_ge (tgt := 119) hx hb d_Mo_rank_9 rfl (by omega) (by omega) (fun h9 => ?_) (fun h9 => ?_)
      · skip
        have hd9 : d = i - st := by omega
        refine lv_aload_n hx hb d_Mo_rank_119 rfl (lv_at hl 0 rfl) ?_
        refine lv_iload_n hx hb d_Mo_rank_120 rfl (lv_at hl 1 rfl) ?_
        refine lv_iload_n hx hb d_Mo_rank_121 rfl (lv_at hl 3 rfl) ?_
        refine lv_iconst (v := zb true) hx hb d_Mo_rank_122 (by decide) ?_
        refine lv_iload hx hb d_Mo_rank_123 (lv_at hl 5 rfl) ?_
        refine lv_iconst (v := nI 1) hx hb d_Mo_rank_125 (by decide) ?_
        refine lv_iadd hx hb d_Mo_rank_126 ?_
        refine zk_topi (show ((nI y) + (nI 1)) = nI (y + 1) from nI_add y 1) ?_
        have hPc := hP.sub (ws' := [(o, .inr (9, [(ϕ 0), (ϕ 1), (ϕ 2), (ϕ 3), (ϕ 4), (ϕ 5), (ϕ 6), (ϕ 7), (ϕ 8), (ϕ 9), (ϕ 10), (ϕ 11), (ϕ 12), (ϕ 13), .ref a_wOrder, (ϕ 15), (ϕ 16), (ϕ 17), (ϕ 18), (ϕ 19), (ϕ 20), (ϕ 21), (ϕ 22), (ϕ 23), (ϕ 24), .ref a_value, .ref a_hole, (ϕ 27), (ϕ 28), .ref a_list, (ϕ 30), (ϕ 31), (ϕ 32), (ϕ 33), (ϕ 34), (ϕ 35), (ϕ 36), (ϕ 37), (ϕ 38), (ϕ 39), (ϕ 40), (ϕ 41), (ϕ 42), (ϕ 43)])), (a_value, .inl (cI, 540, .inl vl)), (a_hole, .inl (cZ, 540, .inl (zZ hl_))), (a_list, .inl (cI, 60, .inl (zN li)))]) [0, 2, 3, 4] rfl
        have hDc := hD.sub (ws' := [(o, .inr (9, [(ϕ 0), (ϕ 1), (ϕ 2), (ϕ 3), (ϕ 4), (ϕ 5), (ϕ 6), (ϕ 7), (ϕ 8), (ϕ 9), (ϕ 10), (ϕ 11), (ϕ 12), (ϕ 13), .ref a_wOrder, (ϕ 15), (ϕ 16), (ϕ 17), (ϕ 18), (ϕ 19), (ϕ 20), (ϕ 21), (ϕ 22), (ϕ 23), (ϕ 24), .ref a_value, .ref a_hole, (ϕ 27), (ϕ 28), .ref a_list, (ϕ 30), (ϕ 31), (ϕ 32), (ϕ 33), (ϕ 34), (ϕ 35), (ϕ 36), (ϕ 37), (ϕ 38), (ϕ 39), (ϕ 40), (ϕ 41), (ϕ 42), (ϕ 43)])), (a_value, .inl (cI, 540, .inl vl)), (a_hole, .inl (cZ, 540, .inl (zZ hl_))), (a_list, .inl (cI, 60, .inl (zN li)))]) [0, 2, 3, 4] (by decide) rfl
        refine zk_wv (wr := [(a_wOrder, .inl (cI, 3, .inl (zO oo)))]) (w2 := (fun _ => [(o, .inr (9, [(ϕ 0), (ϕ 1), (ϕ 2), (ϕ 3), (ϕ 4), (ϕ 5), (ϕ 6), (ϕ 7), (ϕ 8), (ϕ 9), (ϕ 10), (ϕ 11), (ϕ 12), (ϕ 13), .ref a_wOrder, (ϕ 15), (ϕ 16), (ϕ 17), (ϕ 18), (ϕ 19), (ϕ 20), (ϕ 21), (ϕ 22), (ϕ 23), (ϕ 24), .ref a_value, .ref a_hole, (ϕ 27), (ϕ 28), .ref a_list, (ϕ 30), (ϕ 31), (ϕ 32), (ϕ 33), (ϕ 34), (ϕ 35), (ϕ 36), (ϕ 37), (ϕ 38), (ϕ 39), (ϕ 40), (ϕ 41), (ϕ 42), (ϕ 43)])), (a_wOrder, .inl (cI, 3, .inl (zO oo))), (a_value, .inl (cI, 540, .inl (upd vl (9 * li i + 6 + w) (if true = true then nI (y + 1) else nI 0)))), (a_hole, .inl (cZ, 540, .inl (zZ (va_up hl_ (9 * li i + 6 + w) (!true))))), (a_list, .inl (cI, 60, .inl (zN li)))])) hP hD hS hA [0, 2, 3, 4] [1] [1, 0, 2, 3, 4] rfl rfl (by decide) (by decide) (fun _ => rfl) (by decide) (va_runV (As := [.int (nI w), .int (nI i), .int (zb true), .int (nI (y + 1))]) (rest := []) ⟨hx, hb, hml, hown, hts⟩ (c_Mo_result l D cI cL cZ cW cR _ o (vp_V [(ϕ 0), (ϕ 1), (ϕ 2), (ϕ 3), (ϕ 4), (ϕ 5), (ϕ 6), (ϕ 7), (ϕ 8), (ϕ 9), (ϕ 10), (ϕ 11), (ϕ 12), (ϕ 13), .ref a_wOrder, (ϕ 15), (ϕ 16), (ϕ 17), (ϕ 18), (ϕ 19), (ϕ 20), (ϕ 21), (ϕ 22), (ϕ 23), (ϕ 24), .ref a_value, .ref a_hole, (ϕ 27), (ϕ 28), .ref a_list, (ϕ 30), (ϕ 31), (ϕ 32), (ϕ 33), (ϕ 34), (ϕ 35), (ϕ 36), (ϕ 37), (ϕ 38), (ϕ 39), (ϕ 40), (ϕ 41), (ϕ 42), (ϕ 43)]) a_value a_hole a_list vl hl_ li w i true (nI (y + 1)) (by omega) (by omega) (hli _ (by omega))) (cwV 4 hts (zk_gV (fun _ h => List.mem_cons_of_mem _ h) ml_Mo_199 im_Mo_result se_Mo_result in_Mo co_Mo_result) rfl rfl rfl ⟨rfl, hd_Mo_result⟩ ⟨Nat.le_of_ble_eq_true rfl, Nat.le_of_ble_eq_true rfl⟩) (zk_vw (q0 := 0) hN hK hPc hDc rfl rfl) rfl rfl hl.1 rfl (lv_room (Nat.le_of_ble_eq_true rfl)) d_Mo_rank_127 ⟨Nat.zero_le _, Nat.zero_le _⟩) (fun u9 H locs hpost hP hD hS => ?_)
        have hP : va_P D vwCl [(o, .inr (9, [(ϕ 0), (ϕ 1), (ϕ 2), (ϕ 3), (ϕ 4), (ϕ 5), (ϕ 6), (ϕ 7), (ϕ 8), (ϕ 9), (ϕ 10), (ϕ 11), (ϕ 12), (ϕ 13), .ref a_wOrder, (ϕ 15), (ϕ 16), (ϕ 17), (ϕ 18), (ϕ 19), (ϕ 20), (ϕ 21), (ϕ 22), (ϕ 23), (ϕ 24), .ref a_value, .ref a_hole, (ϕ 27), (ϕ 28), .ref a_list, (ϕ 30), (ϕ 31), (ϕ 32), (ϕ 33), (ϕ 34), (ϕ 35), (ϕ 36), (ϕ 37), (ϕ 38), (ϕ 39), (ϕ 40), (ϕ 41), (ϕ 42), (ϕ 43)])), (a_wOrder, .inl (cI, 3, .inl (zO oo))), (a_value, .inl (cI, 540, .inl (upd vl (9 * li i + 6 + w) (if true = true then nI (y + 1) else nI 0)))), (a_hole, .inl (cZ, 540, .inl (zZ (va_up hl_ (9 * li i + 6 + w) (!true))))), (a_list, .inl (cI, 60, .inl (zN li)))] H := hP
        have hD : va_D A [(o, .inr (9, [(ϕ 0), (ϕ 1), (ϕ 2), (ϕ 3), (ϕ 4), (ϕ 5), (ϕ 6), (ϕ 7), (ϕ 8), (ϕ 9), (ϕ 10), (ϕ 11), (ϕ 12), (ϕ 13), .ref a_wOrder, (ϕ 15), (ϕ 16), (ϕ 17), (ϕ 18), (ϕ 19), (ϕ 20), (ϕ 21), (ϕ 22), (ϕ 23), (ϕ 24), .ref a_value, .ref a_hole, (ϕ 27), (ϕ 28), .ref a_list, (ϕ 30), (ϕ 31), (ϕ 32), (ϕ 33), (ϕ 34), (ϕ 35), (ϕ 36), (ϕ 37), (ϕ 38), (ϕ 39), (ϕ 40), (ϕ 41), (ϕ 42), (ϕ 43)])), (a_wOrder, .inl (cI, 3, .inl (zO oo))), (a_value, .inl (cI, 540, .inl (upd vl (9 * li i + 6 + w) (if true = true then nI (y + 1) else nI 0)))), (a_hole, .inl (cZ, 540, .inl (zZ (va_up hl_ (9 * li i + 6 + w) (!true))))), (a_list, .inl (cI, 60, .inl (zN li)))] := hD
        exact zk_vretW hx hb hr hlk hAe hQ hK ((!true, if true = true then nI (y + 1) else nI 0)) (by rw [enc_r, if_pos rfl, hy, hd9]) hP hD hS d_Mo_rank_130
      · skip
        refine lv_aload_n hx hb d_Mo_rank_12 rfl (lv_at hl 0 rfl) ?_
        refine lv_aload_n hx hb d_Mo_rank_13 rfl (lv_at hl 0 rfl) ?_
        refine va_get (C := R_Mo) (T := F_Mo) (N := 44) hx hb hts (fun w h => List.mem_cons_of_mem _ (hin_Mo w h)) hown hK hP 0 rfl rfl 29 (by decide) (hts _ (List.mem_cons_of_mem _ fl_Mo_65)) (fun _ h => h) rfl d_Mo_rank_14 ?_
        refine lv_iload hx hb d_Mo_rank_17 (lv_at hl 6 rfl) ?_
        refine zk_nald hx hb hK hP 4 0 rfl rfl (by omega) (by omega) d_Mo_rank_19 ?_
        refine lv_aload_n hx hb d_Mo_rank_20 rfl (lv_at hl 0 rfl) ?_
        refine va_get (C := R_Mo) (T := F_Mo) (N := 44) hx hb hts (fun w h => List.mem_cons_of_mem _ (hin_Mo w h)) hown hK hP 0 rfl rfl 29 (by decide) (hts _ (List.mem_cons_of_mem _ fl_Mo_65)) (fun _ h => h) rfl d_Mo_rank_21 ?_
        refine lv_iload_n hx hb d_Mo_rank_24 rfl (lv_at hl 3 rfl) ?_
        refine zk_nald hx hb hK hP 4 0 rfl rfl (by omega) (by omega) d_Mo_rank_25 ?_
        refine lv_aload_n hx hb d_Mo_rank_26 rfl (lv_at hl 0 rfl) ?_
        refine va_get (C := R_Mo) (T := F_Mo) (N := 44) hx hb hts (fun w h => List.mem_cons_of_mem _ (hin_Mo w h)) hown hK hP 0 rfl rfl 14 (by decide) (hts _ (List.mem_cons_of_mem _ fl_Mo_34)) (fun _ h => h) rfl d_Mo_rank_27 ?_
        refine lv_iload_n hx hb d_Mo_rank_30 rfl (lv_at hl 1 rfl) ?_
        refine zk_oald hx hb hK hP 1 0 rfl rfl (by omega) (by omega) d_Mo_rank_31 ?_
        have hPc := hP.sub (ws' := [(o, .inr (9, [(ϕ 0), (ϕ 1), (ϕ 2), (ϕ 3), (ϕ 4), (ϕ 5), (ϕ 6), (ϕ 7), (ϕ 8), (ϕ 9), (ϕ 10), (ϕ 11), (ϕ 12), (ϕ 13), .ref a_wOrder, (ϕ 15), (ϕ 16), (ϕ 17), (ϕ 18), (ϕ 19), (ϕ 20), (ϕ 21), (ϕ 22), (ϕ 23), (ϕ 24), .ref a_value, .ref a_hole, (ϕ 27), (ϕ 28), .ref a_list, (ϕ 30), (ϕ 31), (ϕ 32), (ϕ 33), (ϕ 34), (ϕ 35), (ϕ 36), (ϕ 37), (ϕ 38), (ϕ 39), (ϕ 40), (ϕ 41), (ϕ 42), (ϕ 43)])), (a_value, .inl (cI, 540, .inl vl)), (a_hole, .inl (cZ, 540, .inl (zZ hl_)))]) [0, 2, 3] rfl
        refine zk_ri (va_runV (As := [.int (nI (li (st + d))), .int (nI (li i)), .int (oI (oo w))]) (rest := []) ⟨hx, hb, hml, hown, hts⟩ (c_Mo_samePlace l D cI cL cZ cW cR o (vp_V [(ϕ 0), (ϕ 1), (ϕ 2), (ϕ 3), (ϕ 4), (ϕ 5), (ϕ 6), (ϕ 7), (ϕ 8), (ϕ 9), (ϕ 10), (ϕ 11), (ϕ 12), (ϕ 13), .ref a_wOrder, (ϕ 15), (ϕ 16), (ϕ 17), (ϕ 18), (ϕ 19), (ϕ 20), (ϕ 21), (ϕ 22), (ϕ 23), (ϕ 24), .ref a_value, .ref a_hole, (ϕ 27), (ϕ 28), .ref a_list, (ϕ 30), (ϕ 31), (ϕ 32), (ϕ 33), (ϕ 34), (ϕ 35), (ϕ 36), (ϕ 37), (ϕ 38), (ϕ 39), (ϕ 40), (ϕ 41), (ϕ 42), (ϕ 43)]) a_value a_hole vl hl_ (li (st + d)) (li i) (oo w) (fun q h => hoo w q h) (hli _ (by omega)) (hli _ (by omega))) (cwV 3 hts (zk_gV (fun _ h => List.mem_cons_of_mem _ h) ml_Mo_192 im_Mo_samePlace se_Mo_samePlace in_Mo co_Mo_samePlace) rfl rfl rfl ⟨rfl, hd_Mo_samePlace⟩ ⟨Nat.le_of_ble_eq_true rfl, Nat.le_of_ble_eq_true rfl⟩) (zk_vr (q0 := 0) hN hK hPc rfl rfl) rfl rfl hl.1 rfl (lv_room (Nat.le_of_ble_eq_true rfl)) d_Mo_rank_32 ⟨Nat.zero_le _, Nat.zero_le _⟩) ?_
        refine zk_topi (show (zb (pEq (mO hl_ vl (oo w)) (li (st + d)) (li i))) = zb (pEq (mOl hl_ vl li (oo w)) (st + d) i) from congrArg zb mO_l) ?_
        refine zk_ifb_ne (tgt := 42) hx hb d_Mo_rank_35 rfl (fun h35 => ?_) (fun h35 => ?_)
        · skip
          refine lv_iconst (v := zb false) hx hb d_Mo_rank_42 (by decide) ?_
          refine lv_istore (lv' := [(7, .int (zb false)), (0, .ref o), (1, .int (nI w)), (2, .int (nI st)), (3, .int (nI i)), (4, .int (zb b9)), (5, .int (nI y)), (6, .int (nI (st + d)))]) hx hb d_Mo_rank_43 hl (by decide) rfl (fun ls hl => ?_)
          refine lv_iload hx hb d_Mo_rank_45 (lv_at hl 7 rfl) ?_
          refine lv_iload_n hx hb d_Mo_rank_47 rfl (lv_at hl 3 rfl) ?_
          refine zk_icmp_eq (tgt := 80) hx hb d_Mo_rank_48 rfl (by omega) (by omega) (fun h48 => ?_) (fun h48 => ?_)
          · skip
            refine lv_iconst (v := zb true) hx hb d_Mo_rank_80 (by decide) ?_
            refine lv_goto (tgt := 85) hx hb d_Mo_rank_81 rfl ?_
            refine lv_istore (lv' := [(8, .int (zb true)), (7, .int (zb false)), (0, .ref o), (1, .int (nI w)), (2, .int (nI st)), (3, .int (nI i)), (4, .int (zb b9)), (5, .int (nI y)), (6, .int (nI (st + d)))]) hx hb d_Mo_rank_85 hl (by decide) rfl (fun ls hl => ?_)
            refine lv_iload hx hb d_Mo_rank_87 (lv_at hl 1 rfl) ?_
            refine zk_ifb_eq (tgt := 109) hx hb d_Mo_rank_89 rfl (fun _ => ?_) (fun hq => absurd hq (by decide))
            refine lv_iload hx hb d_Mo_rank_109 (lv_at hl 7 rfl) ?_
            refine lv_istore (lv' := [(5, .int (nI y)), (8, .int (zb true)), (7, .int (zb false)), (0, .ref o), (1, .int (nI w)), (2, .int (nI st)), (3, .int (nI i)), (4, .int (zb b9)), (6, .int (nI (st + d)))]) hx hb d_Mo_rank_111 hl (by decide) rfl (fun ls hl => ?_)
            refine lv_iinc (k := 8) (v := nI (st + d + 1)) (lv' := [(6, .int (nI (st + d + 1))), (5, .int (nI y)), (8, .int (zb true)), (7, .int (zb false)), (0, .ref o), (1, .int (nI w)), (2, .int (nI st)), (3, .int (nI i)), (4, .int (zb b9))]) hx hb d_Mo_rank_113 hl rfl (nI_add (st + d) 1) (by decide) rfl (fun ls hl => ?_)
            refine lv_goto (tgt := 6) hx hb d_Mo_rank_116 rfl ?_
            exact ih6 (d + 1) y (by omega) (by first | exact rk_y hy h35 (Or.inl h94) | exact rk_y hy h35 (Or.inr (Or.inl (by omega))) | exact rk_y hy h35 (Or.inr (Or.inr h77)) | exact rk_n1 hy h35 | exact rk_n2 hy h94 (by omega) h77) (by omega) ls _ _ (lv_sub hl [4, 5, 6, 7, 8, 1, 0] rfl) hP hD hS
          · skip
            refine lv_aload_n hx hb d_Mo_rank_51 rfl (lv_at hl 1 rfl) ?_
            refine lv_aload_n hx hb d_Mo_rank_52 rfl (lv_at hl 1 rfl) ?_
            refine va_get (C := R_Mo) (T := F_Mo) (N := 44) hx hb hts (fun w h => List.mem_cons_of_mem _ (hin_Mo w h)) hown hK hP 0 rfl rfl 29 (by decide) (hts _ (List.mem_cons_of_mem _ fl_Mo_65)) (fun _ h => h) rfl d_Mo_rank_53 ?_
            refine lv_iload hx hb d_Mo_rank_56 (lv_at hl 7 rfl) ?_
            refine lv_iconst (v := nI 1) hx hb d_Mo_rank_58 (by decide) ?_
            refine lv_isub hx hb d_Mo_rank_59 ?_
            refine zk_topi (show ((nI (st + d)) - (nI 1)) = nI (st + d - 1) from pk_sub (by omega)) ?_
            refine zk_nald hx hb hK hP 4 0 rfl rfl (by omega) (by omega) d_Mo_rank_60 ?_
            refine lv_aload_n hx hb d_Mo_rank_61 rfl (lv_at hl 1 rfl) ?_
            refine va_get (C := R_Mo) (T := F_Mo) (N := 44) hx hb hts (fun w h => List.mem_cons_of_mem _ (hin_Mo w h)) hown hK hP 0 rfl rfl 29 (by decide) (hts _ (List.mem_cons_of_mem _ fl_Mo_65)) (fun _ h => h) rfl d_Mo_rank_62 ?_
            refine lv_iload hx hb d_Mo_rank_65 (lv_at hl 7 rfl) ?_
            refine zk_nald hx hb hK hP 4 0 rfl rfl (by omega) (by omega) d_Mo_rank_67 ?_
            refine lv_aload_n hx hb d_Mo_rank_68 rfl (lv_at hl 1 rfl) ?_
            refine va_get (C := R_Mo) (T := F_Mo) (N := 44) hx hb hts (fun w h => List.mem_cons_of_mem _ (hin_Mo w h)) hown hK hP 0 rfl rfl 14 (by decide) (hts _ (List.mem_cons_of_mem _ fl_Mo_34)) (fun _ h => h) rfl d_Mo_rank_69 ?_
            refine lv_iload_n hx hb d_Mo_rank_72 rfl (lv_at hl 2 rfl) ?_
            refine zk_oald hx hb hK hP 1 0 rfl rfl (by omega) (by omega) d_Mo_rank_73 ?_
            have hPc := hP.sub (ws' := [(o, .inr (9, [(ϕ 0), (ϕ 1), (ϕ 2), (ϕ 3), (ϕ 4), (ϕ 5), (ϕ 6), (ϕ 7), (ϕ 8), (ϕ 9), (ϕ 10), (ϕ 11), (ϕ 12), (ϕ 13), .ref a_wOrder, (ϕ 15), (ϕ 16), (ϕ 17), (ϕ 18), (ϕ 19), (ϕ 20), (ϕ 21), (ϕ 22), (ϕ 23), (ϕ 24), .ref a_value, .ref a_hole, (ϕ 27), (ϕ 28), .ref a_list, (ϕ 30), (ϕ 31), (ϕ 32), (ϕ 33), (ϕ 34), (ϕ 35), (ϕ 36), (ϕ 37), (ϕ 38), (ϕ 39), (ϕ 40), (ϕ 41), (ϕ 42), (ϕ 43)])), (a_value, .inl (cI, 540, .inl vl)), (a_hole, .inl (cZ, 540, .inl (zZ hl_)))]) [0, 2, 3] rfl
            refine zk_ri (va_runV (As := [.int (nI (li (st + d - 1))), .int (nI (li (st + d))), .int (oI (oo w))]) (rest := []) ⟨hx, hb, hml, hown, hts⟩ (c_Mo_samePlace l D cI cL cZ cW cR o (vp_V [(ϕ 0), (ϕ 1), (ϕ 2), (ϕ 3), (ϕ 4), (ϕ 5), (ϕ 6), (ϕ 7), (ϕ 8), (ϕ 9), (ϕ 10), (ϕ 11), (ϕ 12), (ϕ 13), .ref a_wOrder, (ϕ 15), (ϕ 16), (ϕ 17), (ϕ 18), (ϕ 19), (ϕ 20), (ϕ 21), (ϕ 22), (ϕ 23), (ϕ 24), .ref a_value, .ref a_hole, (ϕ 27), (ϕ 28), .ref a_list, (ϕ 30), (ϕ 31), (ϕ 32), (ϕ 33), (ϕ 34), (ϕ 35), (ϕ 36), (ϕ 37), (ϕ 38), (ϕ 39), (ϕ 40), (ϕ 41), (ϕ 42), (ϕ 43)]) a_value a_hole vl hl_ (li (st + d - 1)) (li (st + d)) (oo w) (fun q h => hoo w q h) (hli _ (by omega)) (hli _ (by omega))) (cwV 3 hts (zk_gV (fun _ h => List.mem_cons_of_mem _ h) ml_Mo_192 im_Mo_samePlace se_Mo_samePlace in_Mo co_Mo_samePlace) rfl rfl rfl ⟨rfl, hd_Mo_samePlace⟩ ⟨Nat.le_of_ble_eq_true rfl, Nat.le_of_ble_eq_true rfl⟩) (zk_vr (q0 := 0) hN hK hPc rfl rfl) rfl rfl hl.1 rfl (lv_room (Nat.le_of_ble_eq_true rfl)) d_Mo_rank_74 ⟨Nat.zero_le _, Nat.zero_le _⟩) ?_
            refine zk_topi (show (zb (pEq (mO hl_ vl (oo w)) (li (st + d - 1)) (li (st + d)))) = zb (pEq (mOl hl_ vl li (oo w)) (st + d - 1) (st + d)) from congrArg zb mO_l) ?_
            refine zk_ifb_ne (tgt := 84) hx hb d_Mo_rank_77 rfl (fun h77 => ?_) (fun h77 => ?_)
            · skip
              refine lv_iconst (v := zb false) hx hb d_Mo_rank_84 (by decide) ?_
              refine lv_istore (lv' := [(8, .int (zb false)), (7, .int (zb false)), (0, .ref o), (1, .int (nI w)), (2, .int (nI st)), (3, .int (nI i)), (4, .int (zb b9)), (5, .int (nI y)), (6, .int (nI (st + d)))]) hx hb d_Mo_rank_85 hl (by decide) rfl (fun ls hl => ?_)
              refine lv_iload hx hb d_Mo_rank_87 (lv_at hl 1 rfl) ?_
              refine zk_ifb_eq (tgt := 109) hx hb d_Mo_rank_89 rfl (fun _ => ?_) (fun hq => absurd hq (by decide))
              refine lv_iload hx hb d_Mo_rank_109 (lv_at hl 7 rfl) ?_
              refine lv_istore (lv' := [(5, .int (nI y)), (8, .int (zb false)), (7, .int (zb false)), (0, .ref o), (1, .int (nI w)), (2, .int (nI st)), (3, .int (nI i)), (4, .int (zb b9)), (6, .int (nI (st + d)))]) hx hb d_Mo_rank_111 hl (by decide) rfl (fun ls hl => ?_)
              refine lv_iinc (k := 8) (v := nI (st + d + 1)) (lv' := [(6, .int (nI (st + d + 1))), (5, .int (nI y)), (8, .int (zb false)), (7, .int (zb false)), (0, .ref o), (1, .int (nI w)), (2, .int (nI st)), (3, .int (nI i)), (4, .int (zb b9))]) hx hb d_Mo_rank_113 hl rfl (nI_add (st + d) 1) (by decide) rfl (fun ls hl => ?_)
              refine lv_goto (tgt := 6) hx hb d_Mo_rank_116 rfl ?_
              exact ih6 (d + 1) y (by omega) (by first | exact rk_y hy h35 (Or.inl h94) | exact rk_y hy h35 (Or.inr (Or.inl (by omega))) | exact rk_y hy h35 (Or.inr (Or.inr h77)) | exact rk_n1 hy h35 | exact rk_n2 hy h94 (by omega) h77) (by omega) ls _ _ (lv_sub hl [4, 5, 6, 7, 8, 1, 0] rfl) hP hD hS
            · skip
              refine lv_iconst (v := zb true) hx hb d_Mo_rank_80 (by decide) ?_
              refine lv_goto (tgt := 85) hx hb d_Mo_rank_81 rfl ?_
              refine lv_istore (lv' := [(8, .int (zb true)), (7, .int (zb false)), (0, .ref o), (1, .int (nI w)), (2, .int (nI st)), (3, .int (nI i)), (4, .int (zb b9)), (5, .int (nI y)), (6, .int (nI (st + d)))]) hx hb d_Mo_rank_85 hl (by decide) rfl (fun ls hl => ?_)
              refine lv_iload hx hb d_Mo_rank_87 (lv_at hl 1 rfl) ?_
              refine zk_ifb_eq (tgt := 109) hx hb d_Mo_rank_89 rfl (fun _ => ?_) (fun hq => absurd hq (by decide))
              refine lv_iload hx hb d_Mo_rank_109 (lv_at hl 7 rfl) ?_
              refine lv_istore (lv' := [(5, .int (nI y)), (8, .int (zb true)), (7, .int (zb false)), (0, .ref o), (1, .int (nI w)), (2, .int (nI st)), (3, .int (nI i)), (4, .int (zb b9)), (6, .int (nI (st + d)))]) hx hb d_Mo_rank_111 hl (by decide) rfl (fun ls hl => ?_)
              refine lv_iinc (k := 8) (v := nI (st + d + 1)) (lv' := [(6, .int (nI (st + d + 1))), (5, .int (nI y)), (8, .int (zb true)), (7, .int (zb false)), (0, .ref o), (1, .int (nI w)), (2, .int (nI st)), (3, .int (nI i)), (4, .int (zb b9))]) hx hb d_Mo_rank_113 hl rfl (nI_add (st + d) 1) (by decide) rfl (fun ls hl => ?_)
              refine lv_goto (tgt := 6) hx hb d_Mo_rank_116 rfl ?_
              exact ih6 (d + 1) y (by omega) (by first | exact rk_y hy h35 (Or.inl h94) | exact rk_y hy h35 (Or.inr (Or.inl (by omega))) | exact rk_y hy h35 (Or.inr (Or.inr h77)) | exact rk_n1 hy h35 | exact rk_n2 hy h94 (by omega) h77) (by omega) ls _ _ (lv_sub hl [4, 5, 6, 7, 8, 1, 0] rfl) hP hD hS
        · skip
          refine lv_iconst (v := zb true) hx hb d_Mo_rank_38 (by decide) ?_
          refine lv_goto (tgt := 43) hx hb d_Mo_rank_39 rfl ?_
          refine lv_istore (lv' := [(7, .int (zb true)), (0, .ref o), (1, .int (nI w)), (2, .int (nI st)), (3, .int (nI i)), (4, .int (zb b9)), (5, .int (nI y)), (6, .int (nI (st + d)))]) hx hb d_Mo_rank_43 hl (by decide) rfl (fun ls hl => ?_)
          refine lv_iload hx hb d_Mo_rank_45 (lv_at hl 7 rfl) ?_
          refine lv_iload_n hx hb d_Mo_rank_47 rfl (lv_at hl 3 rfl) ?_
          refine zk_icmp_eq (tgt := 80) hx hb d_Mo_rank_48 rfl (by omega) (by omega) (fun h48 => ?_) (fun h48 => ?_)
          · skip
            refine lv_iconst (v := zb true) hx hb d_Mo_rank_80 (by decide) ?_
            refine lv_goto (tgt := 85) hx hb d_Mo_rank_81 rfl ?_
            refine lv_istore (lv' := [(8, .int (zb true)), (7, .int (zb true)), (0, .ref o), (1, .int (nI w)), (2, .int (nI st)), (3, .int (nI i)), (4, .int (zb b9)), (5, .int (nI y)), (6, .int (nI (st + d)))]) hx hb d_Mo_rank_85 hl (by decide) rfl (fun ls hl => ?_)
            refine lv_iload hx hb d_Mo_rank_87 (lv_at hl 1 rfl) ?_
            refine zk_ifb_eq (tgt := 109) hx hb d_Mo_rank_89 rfl (fun hq => absurd hq (by decide)) (fun _ => ?_)
            refine lv_iload hx hb d_Mo_rank_92 (lv_at hl 6 rfl) ?_
            refine zk_ifb_ne (tgt := 102) hx hb d_Mo_rank_94 rfl (fun h94 => ?_) (fun h94 => ?_)
            · skip
              refine lv_iload hx hb d_Mo_rank_102 (lv_at hl 7 rfl) ?_
              refine lv_iconst (v := nI 1) hx hb d_Mo_rank_104 (by decide) ?_
              refine lv_iadd hx hb d_Mo_rank_105 ?_
              refine zk_topi (show ((nI y) + (nI 1)) = nI (y + 1) from nI_add y 1) ?_
              refine lv_goto (tgt := 111) hx hb d_Mo_rank_106 rfl ?_
              refine lv_istore (lv' := [(5, .int (nI (y + 1))), (8, .int (zb true)), (7, .int (zb true)), (0, .ref o), (1, .int (nI w)), (2, .int (nI st)), (3, .int (nI i)), (4, .int (zb b9)), (6, .int (nI (st + d)))]) hx hb d_Mo_rank_111 hl (by decide) rfl (fun ls hl => ?_)
              refine lv_iinc (k := 8) (v := nI (st + d + 1)) (lv' := [(6, .int (nI (st + d + 1))), (5, .int (nI (y + 1))), (8, .int (zb true)), (7, .int (zb true)), (0, .ref o), (1, .int (nI w)), (2, .int (nI st)), (3, .int (nI i)), (4, .int (zb b9))]) hx hb d_Mo_rank_113 hl rfl (nI_add (st + d) 1) (by decide) rfl (fun ls hl => ?_)
              refine lv_goto (tgt := 6) hx hb d_Mo_rank_116 rfl ?_
              exact ih6 (d + 1) (y + 1) (by omega) (by first | exact rk_y hy h35 (Or.inl h94) | exact rk_y hy h35 (Or.inr (Or.inl (by omega))) | exact rk_y hy h35 (Or.inr (Or.inr h77)) | exact rk_n1 hy h35 | exact rk_n2 hy h94 (by omega) h77) (by omega) ls _ _ (lv_sub hl [4, 5, 6, 7, 8, 1, 0] rfl) hP hD hS
            · skip
              refine lv_iload hx hb d_Mo_rank_97 (lv_at hl 0 rfl) ?_
              refine zk_ifb_eq (tgt := 109) hx hb d_Mo_rank_99 rfl (fun hq => absurd hq (by decide)) (fun _ => ?_)
              refine lv_iload hx hb d_Mo_rank_102 (lv_at hl 7 rfl) ?_
              refine lv_iconst (v := nI 1) hx hb d_Mo_rank_104 (by decide) ?_
              refine lv_iadd hx hb d_Mo_rank_105 ?_
              refine zk_topi (show ((nI y) + (nI 1)) = nI (y + 1) from nI_add y 1) ?_
              refine lv_goto (tgt := 111) hx hb d_Mo_rank_106 rfl ?_
              refine lv_istore (lv' := [(5, .int (nI (y + 1))), (8, .int (zb true)), (7, .int (zb true)), (0, .ref o), (1, .int (nI w)), (2, .int (nI st)), (3, .int (nI i)), (4, .int (zb b9)), (6, .int (nI (st + d)))]) hx hb d_Mo_rank_111 hl (by decide) rfl (fun ls hl => ?_)
              refine lv_iinc (k := 8) (v := nI (st + d + 1)) (lv' := [(6, .int (nI (st + d + 1))), (5, .int (nI (y + 1))), (8, .int (zb true)), (7, .int (zb true)), (0, .ref o), (1, .int (nI w)), (2, .int (nI st)), (3, .int (nI i)), (4, .int (zb b9))]) hx hb d_Mo_rank_113 hl rfl (nI_add (st + d) 1) (by decide) rfl (fun ls hl => ?_)
              refine lv_goto (tgt := 6) hx hb d_Mo_rank_116 rfl ?_
              exact ih6 (d + 1) (y + 1) (by omega) (by first | exact rk_y hy h35 (Or.inl h94) | exact rk_y hy h35 (Or.inr (Or.inl (by omega))) | exact rk_y hy h35 (Or.inr (Or.inr h77)) | exact rk_n1 hy h35 | exact rk_n2 hy h94 (by omega) h77) (by omega) ls _ _ (lv_sub hl [4, 5, 6, 7, 8, 1, 0] rfl) hP hD hS
          · skip
            refine lv_aload_n hx hb d_Mo_rank_51 rfl (lv_at hl 1 rfl) ?_
            refine lv_aload_n hx hb d_Mo_rank_52 rfl (lv_at hl 1 rfl) ?_
            refine va_get (C := R_Mo) (T := F_Mo) (N := 44) hx hb hts (fun w h => List.mem_cons_of_mem _ (hin_Mo w h)) hown hK hP 0 rfl rfl 29 (by decide) (hts _ (List.mem_cons_of_mem _ fl_Mo_65)) (fun _ h => h) rfl d_Mo_rank_53 ?_
            refine lv_iload hx hb d_Mo_rank_56 (lv_at hl 7 rfl) ?_
            refine lv_iconst (v := nI 1) hx hb d_Mo_rank_58 (by decide) ?_
            refine lv_isub hx hb d_Mo_rank_59 ?_
            refine zk_topi (show ((nI (st + d)) - (nI 1)) = nI (st + d - 1) from pk_sub (by omega)) ?_
            refine zk_nald hx hb hK hP 4 0 rfl rfl (by omega) (by omega) d_Mo_rank_60 ?_
            refine lv_aload_n hx hb d_Mo_rank_61 rfl (lv_at hl 1 rfl) ?_
            refine va_get (C := R_Mo) (T := F_Mo) (N := 44) hx hb hts (fun w h => List.mem_cons_of_mem _ (hin_Mo w h)) hown hK hP 0 rfl rfl 29 (by decide) (hts _ (List.mem_cons_of_mem _ fl_Mo_65)) (fun _ h => h) rfl d_Mo_rank_62 ?_
            refine lv_iload hx hb d_Mo_rank_65 (lv_at hl 7 rfl) ?_
            refine zk_nald hx hb hK hP 4 0 rfl rfl (by omega) (by omega) d_Mo_rank_67 ?_
            refine lv_aload_n hx hb d_Mo_rank_68 rfl (lv_at hl 1 rfl) ?_
            refine va_get (C := R_Mo) (T := F_Mo) (N := 44) hx hb hts (fun w h => List.mem_cons_of_mem _ (hin_Mo w h)) hown hK hP 0 rfl rfl 14 (by decide) (hts _ (List.mem_cons_of_mem _ fl_Mo_34)) (fun _ h => h) rfl d_Mo_rank_69 ?_
            refine lv_iload_n hx hb d_Mo_rank_72 rfl (lv_at hl 2 rfl) ?_
            refine zk_oald hx hb hK hP 1 0 rfl rfl (by omega) (by omega) d_Mo_rank_73 ?_
            have hPc := hP.sub (ws' := [(o, .inr (9, [(ϕ 0), (ϕ 1), (ϕ 2), (ϕ 3), (ϕ 4), (ϕ 5), (ϕ 6), (ϕ 7), (ϕ 8), (ϕ 9), (ϕ 10), (ϕ 11), (ϕ 12), (ϕ 13), .ref a_wOrder, (ϕ 15), (ϕ 16), (ϕ 17), (ϕ 18), (ϕ 19), (ϕ 20), (ϕ 21), (ϕ 22), (ϕ 23), (ϕ 24), .ref a_value, .ref a_hole, (ϕ 27), (ϕ 28), .ref a_list, (ϕ 30), (ϕ 31), (ϕ 32), (ϕ 33), (ϕ 34), (ϕ 35), (ϕ 36), (ϕ 37), (ϕ 38), (ϕ 39), (ϕ 40), (ϕ 41), (ϕ 42), (ϕ 43)])), (a_value, .inl (cI, 540, .inl vl)), (a_hole, .inl (cZ, 540, .inl (zZ hl_)))]) [0, 2, 3] rfl
            refine zk_ri (va_runV (As := [.int (nI (li (st + d - 1))), .int (nI (li (st + d))), .int (oI (oo w))]) (rest := []) ⟨hx, hb, hml, hown, hts⟩ (c_Mo_samePlace l D cI cL cZ cW cR o (vp_V [(ϕ 0), (ϕ 1), (ϕ 2), (ϕ 3), (ϕ 4), (ϕ 5), (ϕ 6), (ϕ 7), (ϕ 8), (ϕ 9), (ϕ 10), (ϕ 11), (ϕ 12), (ϕ 13), .ref a_wOrder, (ϕ 15), (ϕ 16), (ϕ 17), (ϕ 18), (ϕ 19), (ϕ 20), (ϕ 21), (ϕ 22), (ϕ 23), (ϕ 24), .ref a_value, .ref a_hole, (ϕ 27), (ϕ 28), .ref a_list, (ϕ 30), (ϕ 31), (ϕ 32), (ϕ 33), (ϕ 34), (ϕ 35), (ϕ 36), (ϕ 37), (ϕ 38), (ϕ 39), (ϕ 40), (ϕ 41), (ϕ 42), (ϕ 43)]) a_value a_hole vl hl_ (li (st + d - 1)) (li (st + d)) (oo w) (fun q h => hoo w q h) (hli _ (by omega)) (hli _ (by omega))) (cwV 3 hts (zk_gV (fun _ h => List.mem_cons_of_mem _ h) ml_Mo_192 im_Mo_samePlace se_Mo_samePlace in_Mo co_Mo_samePlace) rfl rfl rfl ⟨rfl, hd_Mo_samePlace⟩ ⟨Nat.le_of_ble_eq_true rfl, Nat.le_of_ble_eq_true rfl⟩) (zk_vr (q0 := 0) hN hK hPc rfl rfl) rfl rfl hl.1 rfl (lv_room (Nat.le_of_ble_eq_true rfl)) d_Mo_rank_74 ⟨Nat.zero_le _, Nat.zero_le _⟩) ?_
            refine zk_topi (show (zb (pEq (mO hl_ vl (oo w)) (li (st + d - 1)) (li (st + d)))) = zb (pEq (mOl hl_ vl li (oo w)) (st + d - 1) (st + d)) from congrArg zb mO_l) ?_
            refine zk_ifb_ne (tgt := 84) hx hb d_Mo_rank_77 rfl (fun h77 => ?_) (fun h77 => ?_)
            · skip
              refine lv_iconst (v := zb false) hx hb d_Mo_rank_84 (by decide) ?_
              refine lv_istore (lv' := [(8, .int (zb false)), (7, .int (zb true)), (0, .ref o), (1, .int (nI w)), (2, .int (nI st)), (3, .int (nI i)), (4, .int (zb b9)), (5, .int (nI y)), (6, .int (nI (st + d)))]) hx hb d_Mo_rank_85 hl (by decide) rfl (fun ls hl => ?_)
              refine lv_iload hx hb d_Mo_rank_87 (lv_at hl 1 rfl) ?_
              refine zk_ifb_eq (tgt := 109) hx hb d_Mo_rank_89 rfl (fun hq => absurd hq (by decide)) (fun _ => ?_)
              refine lv_iload hx hb d_Mo_rank_92 (lv_at hl 6 rfl) ?_
              refine zk_ifb_ne (tgt := 102) hx hb d_Mo_rank_94 rfl (fun h94 => ?_) (fun h94 => ?_)
              · skip
                refine lv_iload hx hb d_Mo_rank_102 (lv_at hl 7 rfl) ?_
                refine lv_iconst (v := nI 1) hx hb d_Mo_rank_104 (by decide) ?_
                refine lv_iadd hx hb d_Mo_rank_105 ?_
                refine zk_topi (show ((nI y) + (nI 1)) = nI (y + 1) from nI_add y 1) ?_
                refine lv_goto (tgt := 111) hx hb d_Mo_rank_106 rfl ?_
                refine lv_istore (lv' := [(5, .int (nI (y + 1))), (8, .int (zb false)), (7, .int (zb true)), (0, .ref o), (1, .int (nI w)), (2, .int (nI st)), (3, .int (nI i)), (4, .int (zb b9)), (6, .int (nI (st + d)))]) hx hb d_Mo_rank_111 hl (by decide) rfl (fun ls hl => ?_)
                refine lv_iinc (k := 8) (v := nI (st + d + 1)) (lv' := [(6, .int (nI (st + d + 1))), (5, .int (nI (y + 1))), (8, .int (zb false)), (7, .int (zb true)), (0, .ref o), (1, .int (nI w)), (2, .int (nI st)), (3, .int (nI i)), (4, .int (zb b9))]) hx hb d_Mo_rank_113 hl rfl (nI_add (st + d) 1) (by decide) rfl (fun ls hl => ?_)
                refine lv_goto (tgt := 6) hx hb d_Mo_rank_116 rfl ?_
                exact ih6 (d + 1) (y + 1) (by omega) (by first | exact rk_y hy h35 (Or.inl h94) | exact rk_y hy h35 (Or.inr (Or.inl (by omega))) | exact rk_y hy h35 (Or.inr (Or.inr h77)) | exact rk_n1 hy h35 | exact rk_n2 hy h94 (by omega) h77) (by omega) ls _ _ (lv_sub hl [4, 5, 6, 7, 8, 1, 0] rfl) hP hD hS
              · skip
                refine lv_iload hx hb d_Mo_rank_97 (lv_at hl 0 rfl) ?_
                refine zk_ifb_eq (tgt := 109) hx hb d_Mo_rank_99 rfl (fun _ => ?_) (fun hq => absurd hq (by decide))
                refine lv_iload hx hb d_Mo_rank_109 (lv_at hl 7 rfl) ?_
                refine lv_istore (lv' := [(5, .int (nI y)), (8, .int (zb false)), (7, .int (zb true)), (0, .ref o), (1, .int (nI w)), (2, .int (nI st)), (3, .int (nI i)), (4, .int (zb b9)), (6, .int (nI (st + d)))]) hx hb d_Mo_rank_111 hl (by decide) rfl (fun ls hl => ?_)
                refine lv_iinc (k := 8) (v := nI (st + d + 1)) (lv' := [(6, .int (nI (st + d + 1))), (5, .int (nI y)), (8, .int (zb false)), (7, .int (zb true)), (0, .ref o), (1, .int (nI w)), (2, .int (nI st)), (3, .int (nI i)), (4, .int (zb b9))]) hx hb d_Mo_rank_113 hl rfl (nI_add (st + d) 1) (by decide) rfl (fun ls hl => ?_)
                refine lv_goto (tgt := 6) hx hb d_Mo_rank_116 rfl ?_
                exact ih6 (d + 1) y (by omega) (by first | exact rk_y hy h35 (Or.inl h94) | exact rk_y hy h35 (Or.inr (Or.inl (by omega))) | exact rk_y hy h35 (Or.inr (Or.inr h77)) | exact rk_n1 hy h35 | exact rk_n2 hy h94 (by omega) h77) (by omega) ls _ _ (lv_sub hl [4, 5, 6, 7, 8, 1, 0] rfl) hP hD hS
            · skip
              refine lv_iconst (v := zb true) hx hb d_Mo_rank_80 (by decide) ?_
              refine lv_goto (tgt := 85) hx hb d_Mo_rank_81 rfl ?_
              refine lv_istore (lv' := [(8, .int (zb true)), (7, .int (zb true)), (0, .ref o), (1, .int (nI w)), (2, .int (nI st)), (3, .int (nI i)), (4, .int (zb b9)), (5, .int (nI y)), (6, .int (nI (st + d)))]) hx hb d_Mo_rank_85 hl (by decide) rfl (fun ls hl => ?_)
              refine lv_iload hx hb d_Mo_rank_87 (lv_at hl 1 rfl) ?_
              refine zk_ifb_eq (tgt := 109) hx hb d_Mo_rank_89 rfl (fun hq => absurd hq (by decide)) (fun _ => ?_)
              refine lv_iload hx hb d_Mo_rank_92 (lv_at hl 6 rfl) ?_
              refine zk_ifb_ne (tgt := 102) hx hb d_Mo_rank_94 rfl (fun h94 => ?_) (fun h94 => ?_)
              · skip
                refine lv_iload hx hb d_Mo_rank_102 (lv_at hl 7 rfl) ?_
                refine lv_iconst (v := nI 1) hx hb d_Mo_rank_104 (by decide) ?_
                refine lv_iadd hx hb d_Mo_rank_105 ?_
                refine zk_topi (show ((nI y) + (nI 1)) = nI (y + 1) from nI_add y 1) ?_
                refine lv_goto (tgt := 111) hx hb d_Mo_rank_106 rfl ?_
                refine lv_istore (lv' := [(5, .int (nI (y + 1))), (8, .int (zb true)), (7, .int (zb true)), (0, .ref o), (1, .int (nI w)), (2, .int (nI st)), (3, .int (nI i)), (4, .int (zb b9)), (6, .int (nI (st + d)))]) hx hb d_Mo_rank_111 hl (by decide) rfl (fun ls hl => ?_)
                refine lv_iinc (k := 8) (v := nI (st + d + 1)) (lv' := [(6, .int (nI (st + d + 1))), (5, .int (nI (y + 1))), (8, .int (zb true)), (7, .int (zb true)), (0, .ref o), (1, .int (nI w)), (2, .int (nI st)), (3, .int (nI i)), (4, .int (zb b9))]) hx hb d_Mo_rank_113 hl rfl (nI_add (st + d) 1) (by decide) rfl (fun ls hl => ?_)
                refine lv_goto (tgt := 6) hx hb d_Mo_rank_116 rfl ?_
                exact ih6 (d + 1) (y + 1) (by omega) (by first | exact rk_y hy h35 (Or.inl h94) | exact rk_y hy h35 (Or.inr (Or.inl (by omega))) | exact rk_y hy h35 (Or.inr (Or.inr h77)) | exact rk_n1 hy h35 | exact rk_n2 hy h94 (by omega) h77) (by omega) ls _ _ (lv_sub hl [4, 5, 6, 7, 8, 1, 0] rfl) hP hD hS
              · skip
                refine lv_iload hx hb d_Mo_rank_97 (lv_at hl 0 rfl) ?_
                refine zk_ifb_eq (tgt := 109) hx hb d_Mo_rank_99 rfl (fun hq => absurd hq (by decide)) (fun _ => ?_)
                refine lv_iload hx hb d_Mo_rank_102 (lv_at hl 7 rfl) ?_
                refine lv_iconst (v := nI 1) hx hb d_Mo_rank_104 (by decide) ?_
                refine lv_iadd hx hb d_Mo_rank_105 ?_
                refine zk_topi (show ((nI y) + (nI 1)) = nI (y + 1) from nI_add y 1) ?_
                refine lv_goto (tgt := 111) hx hb d_Mo_rank_106 rfl ?_
                refine lv_istore (lv' := [(5, .int (nI (y + 1))), (8, .int (zb true)), (7, .int (zb true)), (0, .ref o), (1, .int (nI w)), (2, .int (nI st)), (3, .int (nI i)), (4, .int (zb b9)), (6, .int (nI (st + d)))]) hx hb d_Mo_rank_111 hl (by decide) rfl (fun ls hl => ?_)
                refine lv_iinc (k := 8) (v := nI (st + d + 1)) (lv' := [(6, .int (nI (st + d + 1))), (5, .int (nI (y + 1))), (8, .int (zb true)), (7, .int (zb true)), (0, .ref o), (1, .int (nI w)), (2, .int (nI st)), (3, .int (nI i)), (4, .int (zb b9))]) hx hb d_Mo_rank_113 hl rfl (nI_add (st + d) 1) (by decide) rfl (fun ls hl => ?_)
                refine lv_goto (tgt := 6) hx hb d_Mo_rank_116 rfl ?_
                exact ih6 (d + 1) (y + 1) (by omega) (by first | exact rk_y hy h35 (Or.inl h94) | exact rk_y hy h35 (Or.inr (Or.inl (by omega))) | exact rk_y hy h35 (Or.inr (Or.inr h77)) | exact rk_n1 hy h35 | exact rk_n2 hy h94 (by omega) h77) (by omega) ls _ _ (lv_sub hl [4, 5, 6, 7, 8, 1, 0] rfl) hP hD hS
  exact lb6 _ 0 0 hst rfl (Nat.lt_succ_self _) ls _ _ (lv_sub hl [2, 3, 4, 5, 6, 1, 0] rfl) hP hD hS
set_option maxHeartbeats 4000000 in
set_option maxRecDepth 100000 in
theorem c_Mo_tile (l : Launch) (D : va_G) (cI cL cZ cW cR : ClassId) (sz : Nat) (o : Nat) (ϕ : Nat → Value) (a_wNumber a_value a_hole a_list : Nat) (wn : Nat → Nat) (vl : Nat → Int32) (hl_ : Nat → Bool) (li : Nat → Nat) (w st en i : Nat) (hw : w < 3) (hst : st ≤ i) (hie : i < en) (hen : en ≤ 60) (hwn : 1 ≤ wn w ∧ wn w ≤ 9) (hli : ∀ z, z < 60 → li z < 60) : Met l y_Mo_tile ws_Mo_tile rm1_30 (zPw D vwCl (zT cI cL cZ cW cR) [(o, .inr (9, [(ϕ 0), (ϕ 1), (ϕ 2), (ϕ 3), (ϕ 4), (ϕ 5), (ϕ 6), (ϕ 7), (ϕ 8), (ϕ 9), (ϕ 10), (ϕ 11), .ref a_wNumber, (ϕ 13), (ϕ 14), (ϕ 15), (ϕ 16), (ϕ 17), (ϕ 18), (ϕ 19), (ϕ 20), (ϕ 21), (ϕ 22), (ϕ 23), (ϕ 24), .ref a_value, .ref a_hole, (ϕ 27), (ϕ 28), .ref a_list, (ϕ 30), (ϕ 31), (ϕ 32), (ϕ 33), (ϕ 34), (ϕ 35), (ϕ 36), (ϕ 37), (ϕ 38), (ϕ 39), (ϕ 40), (ϕ 41), (ϕ 42), (ϕ 43)])), (a_wNumber, .inl (cI, 3, .inl (zN wn))), (a_value, .inl (cI, 540, .inl vl)), (a_hole, .inl (cZ, 540, .inl (zZ hl_))), (a_list, .inl (cI, 60, .inl (zN li)))] sz [.ref o, .int (nI w), .int (nI st), .int (nI en), .int (nI i)]) (zQv D vwCl (zT cI cL cZ cW cR) [(o, .inr (9, [(ϕ 0), (ϕ 1), (ϕ 2), (ϕ 3), (ϕ 4), (ϕ 5), (ϕ 6), (ϕ 7), (ϕ 8), (ϕ 9), (ϕ 10), (ϕ 11), .ref a_wNumber, (ϕ 13), (ϕ 14), (ϕ 15), (ϕ 16), (ϕ 17), (ϕ 18), (ϕ 19), (ϕ 20), (ϕ 21), (ϕ 22), (ϕ 23), (ϕ 24), .ref a_value, .ref a_hole, (ϕ 27), (ϕ 28), .ref a_list, (ϕ 30), (ϕ 31), (ϕ 32), (ϕ 33), (ϕ 34), (ϕ 35), (ϕ 36), (ϕ 37), (ϕ 38), (ϕ 39), (ϕ 40), (ϕ 41), (ϕ 42), (ϕ 43)])), (a_wNumber, .inl (cI, 3, .inl (zN wn))), (a_value, .inl (cI, 540, .inl vl)), (a_hole, .inl (cZ, 540, .inl (zZ hl_))), (a_list, .inl (cI, 60, .inl (zN li)))] sz (fun u : Bool × Int32 => enc u.1 u.2 = (nI (tileN (i - st) (en - st) (wn w))).toInt64) (fun u => [(o, .inr (9, [(ϕ 0), (ϕ 1), (ϕ 2), (ϕ 3), (ϕ 4), (ϕ 5), (ϕ 6), (ϕ 7), (ϕ 8), (ϕ 9), (ϕ 10), (ϕ 11), .ref a_wNumber, (ϕ 13), (ϕ 14), (ϕ 15), (ϕ 16), (ϕ 17), (ϕ 18), (ϕ 19), (ϕ 20), (ϕ 21), (ϕ 22), (ϕ 23), (ϕ 24), .ref a_value, .ref a_hole, (ϕ 27), (ϕ 28), .ref a_list, (ϕ 30), (ϕ 31), (ϕ 32), (ϕ 33), (ϕ 34), (ϕ 35), (ϕ 36), (ϕ 37), (ϕ 38), (ϕ 39), (ϕ 40), (ϕ 41), (ϕ 42), (ϕ 43)])), (a_wNumber, .inl (cI, 3, .inl (zN wn))), (a_value, .inl (cI, 540, .inl (upd vl (9 * (li i) + 6 + w) u.2))), (a_hole, .inl (cZ, 540, .inl (zZ (va_up hl_ (9 * (li i) + 6 + w) u.1)))), (a_list, .inl (cI, 60, .inl (zN li)))])) 0 0 (va_A [(o, .inr (9, [(ϕ 0), (ϕ 1), (ϕ 2), (ϕ 3), (ϕ 4), (ϕ 5), (ϕ 6), (ϕ 7), (ϕ 8), (ϕ 9), (ϕ 10), (ϕ 11), .ref a_wNumber, (ϕ 13), (ϕ 14), (ϕ 15), (ϕ 16), (ϕ 17), (ϕ 18), (ϕ 19), (ϕ 20), (ϕ 21), (ϕ 22), (ϕ 23), (ϕ 24), .ref a_value, .ref a_hole, (ϕ 27), (ϕ 28), .ref a_list, (ϕ 30), (ϕ 31), (ϕ 32), (ϕ 33), (ϕ 34), (ϕ 35), (ϕ 36), (ϕ 37), (ϕ 38), (ϕ 39), (ϕ 40), (ϕ 41), (ϕ 42), (ϕ 43)])), (a_wNumber, .inl (cI, 3, .inl (zN wn))), (a_value, .inl (cI, 540, .inl vl)), (a_hole, .inl (cZ, 540, .inl (zZ hl_))), (a_list, .inl (cI, 60, .inl (zN li)))] sz) := by
  refine zk_enterW (cc := b_Mo_tile) (maxL := 10) (ret := none) (by decide) rfl (Nat.le_of_ble_eq_true rfl) ?_
  intro p e s m args below meth c ls Q hx hb hml hr hlk hown hts hP hK hN hl hin hsz A hAe hA hD hS hQ
  subst hsz
  have hl : lv_has ls 10 [(0, .ref o), (1, .int (nI w)), (2, .int (nI st)), (3, .int (nI en)), (4, .int (nI i))] := hl
  have hwn1 := hwn.1
  have hwn2 := hwn.2
  have hs9 : ((en - st) / wn w) ≤ en - st := Nat.div_le_self _ _
  have hr9 : ((en - st) % wn w) < wn w := Nat.mod_lt _ (by omega)
  refine lv_iload_n hx hb d_Mo_tile_0 rfl (lv_at hl 3 rfl) ?_
  refine lv_iload_n hx hb d_Mo_tile_1 rfl (lv_at hl 2 rfl) ?_
  refine lv_isub hx hb d_Mo_tile_2 ?_
  refine zk_topi (show ((nI en) - (nI st)) = nI (en - st) from pk_sub (by omega)) ?_
  refine lv_istore (lv' := [(5, .int (nI (en - st))), (0, .ref o), (1, .int (nI w)), (2, .int (nI st)), (3, .int (nI en)), (4, .int (nI i))]) hx hb d_Mo_tile_3 hl (by decide) rfl (fun ls hl => ?_)
  refine lv_aload_n hx hb d_Mo_tile_5 rfl (lv_at hl 1 rfl) ?_
  refine va_get (C := R_Mo) (T := F_Mo) (N := 44) hx hb hts (fun w h => List.mem_cons_of_mem _ (hin_Mo w h)) hown hK hP 0 rfl rfl 12 (by decide) (hts _ (List.mem_cons_of_mem _ fl_Mo_28)) (fun _ h => h) rfl d_Mo_tile_6 ?_
  refine lv_iload_n hx hb d_Mo_tile_9 rfl (lv_at hl 2 rfl) ?_
  refine zk_nald hx hb hK hP 1 0 rfl rfl (by omega) (by omega) d_Mo_tile_10 ?_
  refine lv_istore (lv' := [(6, .int (nI (wn w))), (5, .int (nI (en - st))), (0, .ref o), (1, .int (nI w)), (2, .int (nI st)), (3, .int (nI en)), (4, .int (nI i))]) hx hb d_Mo_tile_11 hl (by decide) rfl (fun ls hl => ?_)
  refine lv_iconst (v := nI 0) hx hb d_Mo_tile_13 (by decide) ?_
  refine lv_istore (lv' := [(7, .int (nI 0)), (6, .int (nI (wn w))), (5, .int (nI (en - st))), (0, .ref o), (1, .int (nI w)), (2, .int (nI st)), (3, .int (nI en)), (4, .int (nI i))]) hx hb d_Mo_tile_14 hl (by decide) rfl (fun ls hl => ?_)
  refine lv_iconst (v := nI 0) hx hb d_Mo_tile_16 (by decide) ?_
  refine lv_istore (lv' := [(8, .int (nI 0)), (7, .int (nI 0)), (6, .int (nI (wn w))), (5, .int (nI (en - st))), (0, .ref o), (1, .int (nI w)), (2, .int (nI st)), (3, .int (nI en)), (4, .int (nI i))]) hx hb d_Mo_tile_17 hl (by decide) rfl (fun ls hl => ?_)
  refine lv_iconst (v := nI 0) hx hb d_Mo_tile_19 (by decide) ?_
  refine lv_istore (lv' := [(9, .int (nI 0)), (8, .int (nI 0)), (7, .int (nI 0)), (6, .int (nI (wn w))), (5, .int (nI (en - st))), (0, .ref o), (1, .int (nI w)), (2, .int (nI st)), (3, .int (nI en)), (4, .int (nI i))]) hx hb d_Mo_tile_20 hl (by decide) rfl (fun ls hl => ?_)
  have lb22 : ∀ (fuel22 : Nat) (t : Nat) (bh : Nat), (t ≤ wn w) → (bh = tB ((en - st) / wn w) ((en - st) % wn w) t) → (bh ≤ 2000 * t) → (t = 0 ∨ tB ((en - st) / wn w) ((en - st) % wn w) (t - 1) ≤ i - st) → wn w - t < fuel22 → ∀ (ls : Array Slot) (H : Heap) (locs : List Loc), lv_has ls 10 [(0, .ref o), (1, .int (nI w)), (2, .int (nI st)), (3, .int (nI en)), (4, .int (nI i)), (5, .int (nI (en - st))), (6, .int (nI (wn w))), (7, .int (nI bh)), (8, .int (nI t)), (9, .int (nI t))] → va_P D vwCl [(o, .inr (9, [(ϕ 0), (ϕ 1), (ϕ 2), (ϕ 3), (ϕ 4), (ϕ 5), (ϕ 6), (ϕ 7), (ϕ 8), (ϕ 9), (ϕ 10), (ϕ 11), .ref a_wNumber, (ϕ 13), (ϕ 14), (ϕ 15), (ϕ 16), (ϕ 17), (ϕ 18), (ϕ 19), (ϕ 20), (ϕ 21), (ϕ 22), (ϕ 23), (ϕ 24), .ref a_value, .ref a_hole, (ϕ 27), (ϕ 28), .ref a_list, (ϕ 30), (ϕ 31), (ϕ 32), (ϕ 33), (ϕ 34), (ϕ 35), (ϕ 36), (ϕ 37), (ϕ 38), (ϕ 39), (ϕ 40), (ϕ 41), (ϕ 42), (ϕ 43)])), (a_wNumber, .inl (cI, 3, .inl (zN wn))), (a_value, .inl (cI, 540, .inl vl)), (a_hole, .inl (cZ, 540, .inl (zZ hl_))), (a_list, .inl (cI, 60, .inl (zN li)))] H → va_D A [(o, .inr (9, [(ϕ 0), (ϕ 1), (ϕ 2), (ϕ 3), (ϕ 4), (ϕ 5), (ϕ 6), (ϕ 7), (ϕ 8), (ϕ 9), (ϕ 10), (ϕ 11), .ref a_wNumber, (ϕ 13), (ϕ 14), (ϕ 15), (ϕ 16), (ϕ 17), (ϕ 18), (ϕ 19), (ϕ 20), (ϕ 21), (ϕ 22), (ϕ 23), (ϕ 24), .ref a_value, .ref a_hole, (ϕ 27), (ϕ 28), .ref a_list, (ϕ 30), (ϕ 31), (ϕ 32), (ϕ 33), (ϕ 34), (ϕ 35), (ϕ 36), (ϕ 37), (ϕ 38), (ϕ 39), (ϕ 40), (ϕ 41), (ϕ 42), (ϕ 43)])), (a_wNumber, .inl (cI, 3, .inl (zN wn))), (a_value, .inl (cI, 540, .inl vl)), (a_hole, .inl (cZ, 540, .inl (zZ hl_))), (a_list, .inl (cI, 60, .inl (zN li)))] → va_S A s.heap H locs → W p l e rm1_30 s m args below meth c H locs 0 0 Q (F0 m 22 ls []) := by
    intro fuel22
    induction fuel22 with
    | zero => intro t bh ht hbh hbb h0t hfu22; exact absurd hfu22 (Nat.not_lt_zero _)
    | succ fuel22 ih22 =>
      intro t bh ht hbh hbb h0t hfu22 ls H locs hl hP hD hS
      refine lv_iload hx hb d_Mo_tile_22 (lv_at hl 9 rfl) ?_
      refine lv_iload hx hb d_Mo_tile_24 (lv_at hl 6 rfl) ?_
      refine zk_icmp_ge (tgt := 76) hx hb d_Mo_tile_26 rfl (by omega) (by omega) (fun h26 => ?_) (fun h26 => ?_)
      · skip
        have ht9 : t = tileN (i - st) (en - st) (wn w) := tl_end (by omega) (by omega) h0t (Or.inl (by omega))
        refine lv_aload_n hx hb d_Mo_tile_76 rfl (lv_at hl 0 rfl) ?_
        refine lv_iload_n hx hb d_Mo_tile_77 rfl (lv_at hl 1 rfl) ?_
        refine lv_iload hx hb d_Mo_tile_78 (lv_at hl 4 rfl) ?_
        refine lv_iconst (v := zb true) hx hb d_Mo_tile_80 (by decide) ?_
        refine lv_iload hx hb d_Mo_tile_81 (lv_at hl 8 rfl) ?_
        have hPc := hP.sub (ws' := [(o, .inr (9, [(ϕ 0), (ϕ 1), (ϕ 2), (ϕ 3), (ϕ 4), (ϕ 5), (ϕ 6), (ϕ 7), (ϕ 8), (ϕ 9), (ϕ 10), (ϕ 11), .ref a_wNumber, (ϕ 13), (ϕ 14), (ϕ 15), (ϕ 16), (ϕ 17), (ϕ 18), (ϕ 19), (ϕ 20), (ϕ 21), (ϕ 22), (ϕ 23), (ϕ 24), .ref a_value, .ref a_hole, (ϕ 27), (ϕ 28), .ref a_list, (ϕ 30), (ϕ 31), (ϕ 32), (ϕ 33), (ϕ 34), (ϕ 35), (ϕ 36), (ϕ 37), (ϕ 38), (ϕ 39), (ϕ 40), (ϕ 41), (ϕ 42), (ϕ 43)])), (a_value, .inl (cI, 540, .inl vl)), (a_hole, .inl (cZ, 540, .inl (zZ hl_))), (a_list, .inl (cI, 60, .inl (zN li)))]) [0, 2, 3, 4] rfl
        have hDc := hD.sub (ws' := [(o, .inr (9, [(ϕ 0), (ϕ 1), (ϕ 2), (ϕ 3), (ϕ 4), (ϕ 5), (ϕ 6), (ϕ 7), (ϕ 8), (ϕ 9), (ϕ 10), (ϕ 11), .ref a_wNumber, (ϕ 13), (ϕ 14), (ϕ 15), (ϕ 16), (ϕ 17), (ϕ 18), (ϕ 19), (ϕ 20), (ϕ 21), (ϕ 22), (ϕ 23), (ϕ 24), .ref a_value, .ref a_hole, (ϕ 27), (ϕ 28), .ref a_list, (ϕ 30), (ϕ 31), (ϕ 32), (ϕ 33), (ϕ 34), (ϕ 35), (ϕ 36), (ϕ 37), (ϕ 38), (ϕ 39), (ϕ 40), (ϕ 41), (ϕ 42), (ϕ 43)])), (a_value, .inl (cI, 540, .inl vl)), (a_hole, .inl (cZ, 540, .inl (zZ hl_))), (a_list, .inl (cI, 60, .inl (zN li)))]) [0, 2, 3, 4] (by decide) rfl
        refine zk_wv (wr := [(a_wNumber, .inl (cI, 3, .inl (zN wn)))]) (w2 := (fun _ => [(o, .inr (9, [(ϕ 0), (ϕ 1), (ϕ 2), (ϕ 3), (ϕ 4), (ϕ 5), (ϕ 6), (ϕ 7), (ϕ 8), (ϕ 9), (ϕ 10), (ϕ 11), .ref a_wNumber, (ϕ 13), (ϕ 14), (ϕ 15), (ϕ 16), (ϕ 17), (ϕ 18), (ϕ 19), (ϕ 20), (ϕ 21), (ϕ 22), (ϕ 23), (ϕ 24), .ref a_value, .ref a_hole, (ϕ 27), (ϕ 28), .ref a_list, (ϕ 30), (ϕ 31), (ϕ 32), (ϕ 33), (ϕ 34), (ϕ 35), (ϕ 36), (ϕ 37), (ϕ 38), (ϕ 39), (ϕ 40), (ϕ 41), (ϕ 42), (ϕ 43)])), (a_wNumber, .inl (cI, 3, .inl (zN wn))), (a_value, .inl (cI, 540, .inl (upd vl (9 * li i + 6 + w) (if true = true then nI t else nI 0)))), (a_hole, .inl (cZ, 540, .inl (zZ (va_up hl_ (9 * li i + 6 + w) (!true))))), (a_list, .inl (cI, 60, .inl (zN li)))])) hP hD hS hA [0, 2, 3, 4] [1] [1, 0, 2, 3, 4] rfl rfl (by decide) (by decide) (fun _ => rfl) (by decide) (va_runV (As := [.int (nI w), .int (nI i), .int (zb true), .int (nI t)]) (rest := []) ⟨hx, hb, hml, hown, hts⟩ (c_Mo_result l D cI cL cZ cW cR _ o (vp_V [(ϕ 0), (ϕ 1), (ϕ 2), (ϕ 3), (ϕ 4), (ϕ 5), (ϕ 6), (ϕ 7), (ϕ 8), (ϕ 9), (ϕ 10), (ϕ 11), .ref a_wNumber, (ϕ 13), (ϕ 14), (ϕ 15), (ϕ 16), (ϕ 17), (ϕ 18), (ϕ 19), (ϕ 20), (ϕ 21), (ϕ 22), (ϕ 23), (ϕ 24), .ref a_value, .ref a_hole, (ϕ 27), (ϕ 28), .ref a_list, (ϕ 30), (ϕ 31), (ϕ 32), (ϕ 33), (ϕ 34), (ϕ 35), (ϕ 36), (ϕ 37), (ϕ 38), (ϕ 39), (ϕ 40), (ϕ 41), (ϕ 42), (ϕ 43)]) a_value a_hole a_list vl hl_ li w i true (nI t) (by omega) (by omega) (hli _ (by omega))) (cwV 4 hts (zk_gV (fun _ h => List.mem_cons_of_mem _ h) ml_Mo_199 im_Mo_result se_Mo_result in_Mo co_Mo_result) rfl rfl rfl ⟨rfl, hd_Mo_result⟩ ⟨Nat.le_of_ble_eq_true rfl, Nat.le_of_ble_eq_true rfl⟩) (zk_vw (q0 := 0) hN hK hPc hDc rfl rfl) rfl rfl hl.1 rfl (lv_room (Nat.le_of_ble_eq_true rfl)) d_Mo_tile_83 ⟨Nat.zero_le _, Nat.zero_le _⟩) (fun u9 H locs hpost hP hD hS => ?_)
        have hP : va_P D vwCl [(o, .inr (9, [(ϕ 0), (ϕ 1), (ϕ 2), (ϕ 3), (ϕ 4), (ϕ 5), (ϕ 6), (ϕ 7), (ϕ 8), (ϕ 9), (ϕ 10), (ϕ 11), .ref a_wNumber, (ϕ 13), (ϕ 14), (ϕ 15), (ϕ 16), (ϕ 17), (ϕ 18), (ϕ 19), (ϕ 20), (ϕ 21), (ϕ 22), (ϕ 23), (ϕ 24), .ref a_value, .ref a_hole, (ϕ 27), (ϕ 28), .ref a_list, (ϕ 30), (ϕ 31), (ϕ 32), (ϕ 33), (ϕ 34), (ϕ 35), (ϕ 36), (ϕ 37), (ϕ 38), (ϕ 39), (ϕ 40), (ϕ 41), (ϕ 42), (ϕ 43)])), (a_wNumber, .inl (cI, 3, .inl (zN wn))), (a_value, .inl (cI, 540, .inl (upd vl (9 * li i + 6 + w) (if true = true then nI t else nI 0)))), (a_hole, .inl (cZ, 540, .inl (zZ (va_up hl_ (9 * li i + 6 + w) (!true))))), (a_list, .inl (cI, 60, .inl (zN li)))] H := hP
        have hD : va_D A [(o, .inr (9, [(ϕ 0), (ϕ 1), (ϕ 2), (ϕ 3), (ϕ 4), (ϕ 5), (ϕ 6), (ϕ 7), (ϕ 8), (ϕ 9), (ϕ 10), (ϕ 11), .ref a_wNumber, (ϕ 13), (ϕ 14), (ϕ 15), (ϕ 16), (ϕ 17), (ϕ 18), (ϕ 19), (ϕ 20), (ϕ 21), (ϕ 22), (ϕ 23), (ϕ 24), .ref a_value, .ref a_hole, (ϕ 27), (ϕ 28), .ref a_list, (ϕ 30), (ϕ 31), (ϕ 32), (ϕ 33), (ϕ 34), (ϕ 35), (ϕ 36), (ϕ 37), (ϕ 38), (ϕ 39), (ϕ 40), (ϕ 41), (ϕ 42), (ϕ 43)])), (a_wNumber, .inl (cI, 3, .inl (zN wn))), (a_value, .inl (cI, 540, .inl (upd vl (9 * li i + 6 + w) (if true = true then nI t else nI 0)))), (a_hole, .inl (cZ, 540, .inl (zZ (va_up hl_ (9 * li i + 6 + w) (!true))))), (a_list, .inl (cI, 60, .inl (zN li)))] := hD
        exact zk_vretW hx hb hr hlk hAe hQ hK ((!true, if true = true then nI t else nI 0)) (by rw [enc_r, if_pos rfl, ← ht9]) hP hD hS d_Mo_tile_86
      · skip
        refine lv_iload hx hb d_Mo_tile_29 (lv_at hl 7 rfl) ?_
        refine lv_iload hx hb d_Mo_tile_31 (lv_at hl 4 rfl) ?_
        refine lv_iload_n hx hb d_Mo_tile_33 rfl (lv_at hl 2 rfl) ?_
        refine lv_isub hx hb d_Mo_tile_34 ?_
        refine zk_topi (show ((nI i) - (nI st)) = nI (i - st) from pk_sub (by omega)) ?_
        refine zk_icmp_gt (tgt := 76) hx hb d_Mo_tile_35 rfl (by omega) (by omega) (fun h35 => ?_) (fun h35 => ?_)
        · skip
          have ht9 : t = tileN (i - st) (en - st) (wn w) := tl_end (by omega) (by omega) h0t (Or.inr (by rw [← hbh]; omega))
          refine lv_aload_n hx hb d_Mo_tile_76 rfl (lv_at hl 0 rfl) ?_
          refine lv_iload_n hx hb d_Mo_tile_77 rfl (lv_at hl 1 rfl) ?_
          refine lv_iload hx hb d_Mo_tile_78 (lv_at hl 4 rfl) ?_
          refine lv_iconst (v := zb true) hx hb d_Mo_tile_80 (by decide) ?_
          refine lv_iload hx hb d_Mo_tile_81 (lv_at hl 8 rfl) ?_
          have hPc := hP.sub (ws' := [(o, .inr (9, [(ϕ 0), (ϕ 1), (ϕ 2), (ϕ 3), (ϕ 4), (ϕ 5), (ϕ 6), (ϕ 7), (ϕ 8), (ϕ 9), (ϕ 10), (ϕ 11), .ref a_wNumber, (ϕ 13), (ϕ 14), (ϕ 15), (ϕ 16), (ϕ 17), (ϕ 18), (ϕ 19), (ϕ 20), (ϕ 21), (ϕ 22), (ϕ 23), (ϕ 24), .ref a_value, .ref a_hole, (ϕ 27), (ϕ 28), .ref a_list, (ϕ 30), (ϕ 31), (ϕ 32), (ϕ 33), (ϕ 34), (ϕ 35), (ϕ 36), (ϕ 37), (ϕ 38), (ϕ 39), (ϕ 40), (ϕ 41), (ϕ 42), (ϕ 43)])), (a_value, .inl (cI, 540, .inl vl)), (a_hole, .inl (cZ, 540, .inl (zZ hl_))), (a_list, .inl (cI, 60, .inl (zN li)))]) [0, 2, 3, 4] rfl
          have hDc := hD.sub (ws' := [(o, .inr (9, [(ϕ 0), (ϕ 1), (ϕ 2), (ϕ 3), (ϕ 4), (ϕ 5), (ϕ 6), (ϕ 7), (ϕ 8), (ϕ 9), (ϕ 10), (ϕ 11), .ref a_wNumber, (ϕ 13), (ϕ 14), (ϕ 15), (ϕ 16), (ϕ 17), (ϕ 18), (ϕ 19), (ϕ 20), (ϕ 21), (ϕ 22), (ϕ 23), (ϕ 24), .ref a_value, .ref a_hole, (ϕ 27), (ϕ 28), .ref a_list, (ϕ 30), (ϕ 31), (ϕ 32), (ϕ 33), (ϕ 34), (ϕ 35), (ϕ 36), (ϕ 37), (ϕ 38), (ϕ 39), (ϕ 40), (ϕ 41), (ϕ 42), (ϕ 43)])), (a_value, .inl (cI, 540, .inl vl)), (a_hole, .inl (cZ, 540, .inl (zZ hl_))), (a_list, .inl (cI, 60, .inl (zN li)))]) [0, 2, 3, 4] (by decide) rfl
          refine zk_wv (wr := [(a_wNumber, .inl (cI, 3, .inl (zN wn)))]) (w2 := (fun _ => [(o, .inr (9, [(ϕ 0), (ϕ 1), (ϕ 2), (ϕ 3), (ϕ 4), (ϕ 5), (ϕ 6), (ϕ 7), (ϕ 8), (ϕ 9), (ϕ 10), (ϕ 11), .ref a_wNumber, (ϕ 13), (ϕ 14), (ϕ 15), (ϕ 16), (ϕ 17), (ϕ 18), (ϕ 19), (ϕ 20), (ϕ 21), (ϕ 22), (ϕ 23), (ϕ 24), .ref a_value, .ref a_hole, (ϕ 27), (ϕ 28), .ref a_list, (ϕ 30), (ϕ 31), (ϕ 32), (ϕ 33), (ϕ 34), (ϕ 35), (ϕ 36), (ϕ 37), (ϕ 38), (ϕ 39), (ϕ 40), (ϕ 41), (ϕ 42), (ϕ 43)])), (a_wNumber, .inl (cI, 3, .inl (zN wn))), (a_value, .inl (cI, 540, .inl (upd vl (9 * li i + 6 + w) (if true = true then nI t else nI 0)))), (a_hole, .inl (cZ, 540, .inl (zZ (va_up hl_ (9 * li i + 6 + w) (!true))))), (a_list, .inl (cI, 60, .inl (zN li)))])) hP hD hS hA [0, 2, 3, 4] [1] [1, 0, 2, 3, 4] rfl rfl (by decide) (by decide) (fun _ => rfl) (by decide) (va_runV (As := [.int (nI w), .int (nI i), .int (zb true), .int (nI t)]) (rest := []) ⟨hx, hb, hml, hown, hts⟩ (c_Mo_result l D cI cL cZ cW cR _ o (vp_V [(ϕ 0), (ϕ 1), (ϕ 2), (ϕ 3), (ϕ 4), (ϕ 5), (ϕ 6), (ϕ 7), (ϕ 8), (ϕ 9), (ϕ 10), (ϕ 11), .ref a_wNumber, (ϕ 13), (ϕ 14), (ϕ 15), (ϕ 16), (ϕ 17), (ϕ 18), (ϕ 19), (ϕ 20), (ϕ 21), (ϕ 22), (ϕ 23), (ϕ 24), .ref a_value, .ref a_hole, (ϕ 27), (ϕ 28), .ref a_list, (ϕ 30), (ϕ 31), (ϕ 32), (ϕ 33), (ϕ 34), (ϕ 35), (ϕ 36), (ϕ 37), (ϕ 38), (ϕ 39), (ϕ 40), (ϕ 41), (ϕ 42), (ϕ 43)]) a_value a_hole a_list vl hl_ li w i true (nI t) (by omega) (by omega) (hli _ (by omega))) (cwV 4 hts (zk_gV (fun _ h => List.mem_cons_of_mem _ h) ml_Mo_199 im_Mo_result se_Mo_result in_Mo co_Mo_result) rfl rfl rfl ⟨rfl, hd_Mo_result⟩ ⟨Nat.le_of_ble_eq_true rfl, Nat.le_of_ble_eq_true rfl⟩) (zk_vw (q0 := 0) hN hK hPc hDc rfl rfl) rfl rfl hl.1 rfl (lv_room (Nat.le_of_ble_eq_true rfl)) d_Mo_tile_83 ⟨Nat.zero_le _, Nat.zero_le _⟩) (fun u9 H locs hpost hP hD hS => ?_)
          have hP : va_P D vwCl [(o, .inr (9, [(ϕ 0), (ϕ 1), (ϕ 2), (ϕ 3), (ϕ 4), (ϕ 5), (ϕ 6), (ϕ 7), (ϕ 8), (ϕ 9), (ϕ 10), (ϕ 11), .ref a_wNumber, (ϕ 13), (ϕ 14), (ϕ 15), (ϕ 16), (ϕ 17), (ϕ 18), (ϕ 19), (ϕ 20), (ϕ 21), (ϕ 22), (ϕ 23), (ϕ 24), .ref a_value, .ref a_hole, (ϕ 27), (ϕ 28), .ref a_list, (ϕ 30), (ϕ 31), (ϕ 32), (ϕ 33), (ϕ 34), (ϕ 35), (ϕ 36), (ϕ 37), (ϕ 38), (ϕ 39), (ϕ 40), (ϕ 41), (ϕ 42), (ϕ 43)])), (a_wNumber, .inl (cI, 3, .inl (zN wn))), (a_value, .inl (cI, 540, .inl (upd vl (9 * li i + 6 + w) (if true = true then nI t else nI 0)))), (a_hole, .inl (cZ, 540, .inl (zZ (va_up hl_ (9 * li i + 6 + w) (!true))))), (a_list, .inl (cI, 60, .inl (zN li)))] H := hP
          have hD : va_D A [(o, .inr (9, [(ϕ 0), (ϕ 1), (ϕ 2), (ϕ 3), (ϕ 4), (ϕ 5), (ϕ 6), (ϕ 7), (ϕ 8), (ϕ 9), (ϕ 10), (ϕ 11), .ref a_wNumber, (ϕ 13), (ϕ 14), (ϕ 15), (ϕ 16), (ϕ 17), (ϕ 18), (ϕ 19), (ϕ 20), (ϕ 21), (ϕ 22), (ϕ 23), (ϕ 24), .ref a_value, .ref a_hole, (ϕ 27), (ϕ 28), .ref a_list, (ϕ 30), (ϕ 31), (ϕ 32), (ϕ 33), (ϕ 34), (ϕ 35), (ϕ 36), (ϕ 37), (ϕ 38), (ϕ 39), (ϕ 40), (ϕ 41), (ϕ 42), (ϕ 43)])), (a_wNumber, .inl (cI, 3, .inl (zN wn))), (a_value, .inl (cI, 540, .inl (upd vl (9 * li i + 6 + w) (if true = true then nI t else nI 0)))), (a_hole, .inl (cZ, 540, .inl (zZ (va_up hl_ (9 * li i + 6 + w) (!true))))), (a_list, .inl (cI, 60, .inl (zN li)))] := hD
          exact zk_vretW hx hb hr hlk hAe hQ hK ((!true, if true = true then nI t else nI 0)) (by rw [enc_r, if_pos rfl, ← ht9]) hP hD hS d_Mo_tile_86
        · skip
          refine lv_iload hx hb d_Mo_tile_38 (lv_at hl 7 rfl) ?_
          refine lv_iload hx hb d_Mo_tile_40 (lv_at hl 5 rfl) ?_
          refine lv_iload hx hb d_Mo_tile_42 (lv_at hl 6 rfl) ?_
          refine lv_idiv hx hb d_Mo_tile_44 (nI_ne0 (by omega) (by omega)) ?_
          refine zk_topi (show ((nI (en - st)) / (nI (wn w))) = nI ((en - st) / (wn w)) from pk_div (by omega) (by omega) (by omega)) ?_
          refine lv_iload hx hb d_Mo_tile_45 (lv_at hl 9 rfl) ?_
          refine lv_iload hx hb d_Mo_tile_47 (lv_at hl 5 rfl) ?_
          refine lv_iload hx hb d_Mo_tile_49 (lv_at hl 6 rfl) ?_
          refine lv_irem hx hb d_Mo_tile_51 (nI_ne0 (by omega) (by omega)) ?_
          refine zk_topi (show ((nI (en - st)) - (nI (en - st)) / (nI (wn w)) * (nI (wn w))) = nI ((en - st) % (wn w)) from pk_rem (by omega) (by omega) (by omega)) ?_
          refine zk_icmp_ge (tgt := 59) hx hb d_Mo_tile_52 rfl (by omega) (by omega) (fun h52 => ?_) (fun h52 => ?_)
          · skip
            have hz : bh + (((en - st) / wn w) + 0) = tB ((en - st) / wn w) ((en - st) % wn w) (t + 1) := by rw [hbh, ← tB_s, if_neg (by omega)]
            refine lv_iconst (v := nI 0) hx hb d_Mo_tile_59 (by decide) ?_
            refine lv_iadd hx hb d_Mo_tile_60 ?_
            refine zk_topi (show ((nI ((en - st) / (wn w))) + (nI 0)) = nI ((en - st) / (wn w) + 0) from nI_add ((en - st) / (wn w)) 0) ?_
            refine lv_iadd hx hb d_Mo_tile_61 ?_
            refine zk_topi (show ((nI bh) + (nI ((en - st) / (wn w) + 0))) = nI (bh + ((en - st) / (wn w) + 0)) from nI_add bh ((en - st) / (wn w) + 0)) ?_
            refine lv_istore (lv' := [(7, .int (nI (bh + ((en - st) / (wn w) + 0)))), (0, .ref o), (1, .int (nI w)), (2, .int (nI st)), (3, .int (nI en)), (4, .int (nI i)), (5, .int (nI (en - st))), (6, .int (nI (wn w))), (8, .int (nI t)), (9, .int (nI t))]) hx hb d_Mo_tile_62 hl (by decide) rfl (fun ls hl => ?_)
            refine lv_iload hx hb d_Mo_tile_64 (lv_at hl 9 rfl) ?_
            refine lv_iconst (v := nI 1) hx hb d_Mo_tile_66 (by decide) ?_
            refine lv_iadd hx hb d_Mo_tile_67 ?_
            refine zk_topi (show ((nI t) + (nI 1)) = nI (t + 1) from nI_add t 1) ?_
            refine lv_istore (lv' := [(8, .int (nI (t + 1))), (7, .int (nI (bh + ((en - st) / (wn w) + 0)))), (0, .ref o), (1, .int (nI w)), (2, .int (nI st)), (3, .int (nI en)), (4, .int (nI i)), (5, .int (nI (en - st))), (6, .int (nI (wn w))), (9, .int (nI t))]) hx hb d_Mo_tile_68 hl (by decide) rfl (fun ls hl => ?_)
            refine lv_iinc (k := 9) (v := nI (t + 1)) (lv' := [(9, .int (nI (t + 1))), (8, .int (nI (t + 1))), (7, .int (nI (bh + ((en - st) / (wn w) + 0)))), (0, .ref o), (1, .int (nI w)), (2, .int (nI st)), (3, .int (nI en)), (4, .int (nI i)), (5, .int (nI (en - st))), (6, .int (nI (wn w)))]) hx hb d_Mo_tile_70 hl rfl (nI_add t 1) (by decide) rfl (fun ls hl => ?_)
            refine lv_goto (tgt := 22) hx hb d_Mo_tile_73 rfl ?_
            exact ih22 (t + 1) (bh + ((en - st) / (wn w) + 0)) (by omega) hz (by omega) (Or.inr (by rw [Nat.add_sub_cancel, ← hbh]; omega)) (by omega) ls _ _ (lv_sub hl [3, 4, 5, 6, 7, 8, 9, 2, 1, 0] rfl) hP hD hS
          · skip
            have hz : bh + (((en - st) / wn w) + 1) = tB ((en - st) / wn w) ((en - st) % wn w) (t + 1) := by rw [hbh, ← tB_s, if_pos h52]
            refine lv_iconst (v := nI 1) hx hb d_Mo_tile_55 (by decide) ?_
            refine lv_goto (tgt := 60) hx hb d_Mo_tile_56 rfl ?_
            refine lv_iadd hx hb d_Mo_tile_60 ?_
            refine zk_topi (show ((nI ((en - st) / (wn w))) + (nI 1)) = nI ((en - st) / (wn w) + 1) from nI_add ((en - st) / (wn w)) 1) ?_
            refine lv_iadd hx hb d_Mo_tile_61 ?_
            refine zk_topi (show ((nI bh) + (nI ((en - st) / (wn w) + 1))) = nI (bh + ((en - st) / (wn w) + 1)) from nI_add bh ((en - st) / (wn w) + 1)) ?_
            refine lv_istore (lv' := [(7, .int (nI (bh + ((en - st) / (wn w) + 1)))), (0, .ref o), (1, .int (nI w)), (2, .int (nI st)), (3, .int (nI en)), (4, .int (nI i)), (5, .int (nI (en - st))), (6, .int (nI (wn w))), (8, .int (nI t)), (9, .int (nI t))]) hx hb d_Mo_tile_62 hl (by decide) rfl (fun ls hl => ?_)
            refine lv_iload hx hb d_Mo_tile_64 (lv_at hl 9 rfl) ?_
            refine lv_iconst (v := nI 1) hx hb d_Mo_tile_66 (by decide) ?_
            refine lv_iadd hx hb d_Mo_tile_67 ?_
            refine zk_topi (show ((nI t) + (nI 1)) = nI (t + 1) from nI_add t 1) ?_
            refine lv_istore (lv' := [(8, .int (nI (t + 1))), (7, .int (nI (bh + ((en - st) / (wn w) + 1)))), (0, .ref o), (1, .int (nI w)), (2, .int (nI st)), (3, .int (nI en)), (4, .int (nI i)), (5, .int (nI (en - st))), (6, .int (nI (wn w))), (9, .int (nI t))]) hx hb d_Mo_tile_68 hl (by decide) rfl (fun ls hl => ?_)
            refine lv_iinc (k := 9) (v := nI (t + 1)) (lv' := [(9, .int (nI (t + 1))), (8, .int (nI (t + 1))), (7, .int (nI (bh + ((en - st) / (wn w) + 1)))), (0, .ref o), (1, .int (nI w)), (2, .int (nI st)), (3, .int (nI en)), (4, .int (nI i)), (5, .int (nI (en - st))), (6, .int (nI (wn w)))]) hx hb d_Mo_tile_70 hl rfl (nI_add t 1) (by decide) rfl (fun ls hl => ?_)
            refine lv_goto (tgt := 22) hx hb d_Mo_tile_73 rfl ?_
            exact ih22 (t + 1) (bh + ((en - st) / (wn w) + 1)) (by omega) hz (by omega) (Or.inr (by rw [Nat.add_sub_cancel, ← hbh]; omega)) (by omega) ls _ _ (lv_sub hl [3, 4, 5, 6, 7, 8, 9, 2, 1, 0] rfl) hP hD hS
  exact lb22 _ 0 0 (Nat.zero_le _) (by unfold tB; rw [Nat.zero_mul, Nat.zero_min]) (Nat.zero_le _) (Or.inl rfl) (Nat.lt_succ_self _) ls _ _ (lv_sub hl [5, 6, 7, 8, 9, 4, 3, 2, 1, 0] rfl) hP hD hS
set_option maxHeartbeats 4000000 in
set_option maxRecDepth 100000 in
theorem c_Mo_inFrame_f (l : Launch) (D : va_G) (cI cL cZ cW cR : ClassId) (o : Nat) (ϕ : Nat → Value) (a_wOrder a_wDown a_wRange a_wLow a_wHigh a_list a_value a_hole : Nat) (oo : Nat → Option Nat) (wd : Nat → Bool) (wg : Nat → Bool) (wl : Nat → Int32) (wh : Nat → Int32) (li : Nat → Nat) (vl : Nat → Int32) (hl_ : Nat → Bool) (w st i j : Nat) (hw : w < 3) (hi : i < 60) (hj : j < 60) (hli : ∀ z, z < 60 → li z < 60) (hwl : (-10 : Int32) ≤ wl w ∧ wl w ≤ nI 10) (hwh : (-10 : Int32) ≤ wh w ∧ wh w ≤ nI 10) (hwg : wg w = false) : Met l y_Mo_inFrame ws_Mo_inFrame rm0_0 (zPr D vwCl (zT cI cL cZ cW cR) [(o, .inr (9, [(ϕ 0), (ϕ 1), (ϕ 2), (ϕ 3), (ϕ 4), (ϕ 5), (ϕ 6), (ϕ 7), (ϕ 8), (ϕ 9), (ϕ 10), (ϕ 11), (ϕ 12), (ϕ 13), .ref a_wOrder, .ref a_wDown, .ref a_wRange, .ref a_wLow, .ref a_wHigh, (ϕ 19), (ϕ 20), (ϕ 21), (ϕ 22), (ϕ 23), (ϕ 24), .ref a_value, .ref a_hole, (ϕ 27), (ϕ 28), .ref a_list, (ϕ 30), (ϕ 31), (ϕ 32), (ϕ 33), (ϕ 34), (ϕ 35), (ϕ 36), (ϕ 37), (ϕ 38), (ϕ 39), (ϕ 40), (ϕ 41), (ϕ 42), (ϕ 43)])), (a_wOrder, .inl (cI, 3, .inl (zO oo))), (a_wDown, .inl (cZ, 3, .inl (zZ wd))), (a_wRange, .inl (cZ, 3, .inl (zZ wg))), (a_wLow, .inl (cI, 3, .inl wl)), (a_wHigh, .inl (cI, 3, .inl wh)), (a_list, .inl (cI, 60, .inl (zN li))), (a_value, .inl (cI, 540, .inl vl)), (a_hole, .inl (cZ, 540, .inl (zZ hl_)))] [.ref o, .int (nI w), .int (nI st), .int (nI i), .int (nI j)]) (zSi (zb (inF (mOl hl_ vl li (oo w)) (wd w) (wg w) (wl w) (wh w) i j))) 0 0 (fun _ => False) := by
  refine zk_enterR (cc := b_Mo_inFrame) (maxL := 11) (ret := some .boolean) (by decide) rfl (Nat.le_of_ble_eq_true rfl) ?_
  intro p e s m args below meth c ls Q hx hb hml hr hlk hown hts hP hK hN hl hQ
  have hl : lv_has ls 11 [(0, .ref o), (1, .int (nI w)), (2, .int (nI st)), (3, .int (nI i)), (4, .int (nI j))] := hl
  refine lv_aload_n hx hb d_Mo_inFrame_0 rfl (lv_at hl 0 rfl) ?_
  refine va_get (C := R_Mo) (T := F_Mo) (N := 44) hx hb hts (fun w h => List.mem_cons_of_mem _ (hin_Mo w h)) hown hK hP 0 rfl rfl 17 (by decide) (hts _ (List.mem_cons_of_mem _ fl_Mo_44)) (fun _ h => h) rfl d_Mo_inFrame_1 ?_
  refine lv_iload_n hx hb d_Mo_inFrame_4 rfl (lv_at hl 1 rfl) ?_
  refine zk_iald hx hb hK hP 4 0 rfl rfl (by omega) (by omega) d_Mo_inFrame_5 ?_
  refine lv_istore (lv' := [(5, .int (wl w)), (0, .ref o), (1, .int (nI w)), (2, .int (nI st)), (3, .int (nI i)), (4, .int (nI j))]) hx hb d_Mo_inFrame_6 hl (by decide) rfl (fun ls hl => ?_)
  refine lv_aload_n hx hb d_Mo_inFrame_8 rfl (lv_at hl 1 rfl) ?_
  refine va_get (C := R_Mo) (T := F_Mo) (N := 44) hx hb hts (fun w h => List.mem_cons_of_mem _ (hin_Mo w h)) hown hK hP 0 rfl rfl 18 (by decide) (hts _ (List.mem_cons_of_mem _ fl_Mo_47)) (fun _ h => h) rfl d_Mo_inFrame_9 ?_
  refine lv_iload_n hx hb d_Mo_inFrame_12 rfl (lv_at hl 2 rfl) ?_
  refine zk_iald hx hb hK hP 5 0 rfl rfl (by omega) (by omega) d_Mo_inFrame_13 ?_
  refine lv_istore (lv' := [(6, .int (wh w)), (5, .int (wl w)), (0, .ref o), (1, .int (nI w)), (2, .int (nI st)), (3, .int (nI i)), (4, .int (nI j))]) hx hb d_Mo_inFrame_14 hl (by decide) rfl (fun ls hl => ?_)
  refine lv_aload_n hx hb d_Mo_inFrame_16 rfl (lv_at hl 2 rfl) ?_
  refine va_get (C := R_Mo) (T := F_Mo) (N := 44) hx hb hts (fun w h => List.mem_cons_of_mem _ (hin_Mo w h)) hown hK hP 0 rfl rfl 16 (by decide) (hts _ (List.mem_cons_of_mem _ fl_Mo_41)) (fun _ h => h) rfl d_Mo_inFrame_17 ?_
  refine lv_iload_n hx hb d_Mo_inFrame_20 rfl (lv_at hl 3 rfl) ?_
  refine zk_bald hx hb hK hP 3 2 rfl rfl (by omega) (by omega) d_Mo_inFrame_21 ?_
  refine zk_ifb_ne (tgt := 63) hx hb d_Mo_inFrame_22 rfl (fun hq => absurd hq (by rw [hwg]; exact Bool.false_ne_true)) (fun _ => ?_)
  refine lv_iload hx hb d_Mo_inFrame_25 (lv_at hl 1 rfl) ?_
  refine lv_bipush (v := (-10)) hx hb d_Mo_inFrame_27 (by decide) ?_
  refine lv_icmp_eq (tgt := 41) hx hb d_Mo_inFrame_29 rfl (fun h29 => ?_) (fun h29 => ?_)
  · skip
    refine lv_iload hx hb d_Mo_inFrame_41 (lv_at hl 0 rfl) ?_
    refine lv_bipush (v := nI 10) hx hb d_Mo_inFrame_43 (by decide) ?_
    refine lv_icmp_eq (tgt := 57) hx hb d_Mo_inFrame_45 rfl (fun h45 => ?_) (fun h45 => ?_)
    · skip
      refine lv_iconst (v := nI 1) hx hb d_Mo_inFrame_57 (by decide) ?_
      refine lv_goto (tgt := 62) hx hb d_Mo_inFrame_58 rfl ?_
      exact zk_zretR hx hb hr hlk hQ (by rw [hwg, inF_r]; first | exact zk_t ⟨Or.inl h29, Or.inl h45⟩ | exact zk_t ⟨Or.inl h29, Or.inr (Int64.not_lt.mp (fun q => h54 ((fr_hi (by omega) (by omega) hwh).mpr (Int64.not_le.mpr q))))⟩ | exact zk_t ⟨Or.inr (Int64.not_lt.mp (fun q => h38 ((fr_lo (by omega) (by omega) hwl).mpr (Int64.not_le.mpr q)))), Or.inl h45⟩ | exact zk_t ⟨Or.inr (Int64.not_lt.mp (fun q => h38 ((fr_lo (by omega) (by omega) hwl).mpr (Int64.not_le.mpr q)))), Or.inr (Int64.not_lt.mp (fun q => h54 ((fr_hi (by omega) (by omega) hwh).mpr (Int64.not_le.mpr q))))⟩ | exact zk_f (fun q => q.1.elim h29 ((fr_lo (by omega) (by omega) hwl).mp h38)) | exact zk_f (fun q => q.2.elim h45 ((fr_hi (by omega) (by omega) hwh).mp h54))) d_Mo_inFrame_62
    · skip
      refine lv_iload hx hb d_Mo_inFrame_48 (lv_at hl 6 rfl) ?_
      refine lv_iload_n hx hb d_Mo_inFrame_50 rfl (lv_at hl 5 rfl) ?_
      refine lv_iload hx hb d_Mo_inFrame_51 (lv_at hl 0 rfl) ?_
      refine lv_iadd hx hb d_Mo_inFrame_53 ?_
      refine lv_icmp_gt (tgt := 61) hx hb d_Mo_inFrame_54 rfl (fun h54 => ?_) (fun h54 => ?_)
      · skip
        refine lv_iconst (v := nI 0) hx hb d_Mo_inFrame_61 (by decide) ?_
        exact zk_zretR hx hb hr hlk hQ (by rw [hwg, inF_r]; first | exact zk_t ⟨Or.inl h29, Or.inl h45⟩ | exact zk_t ⟨Or.inl h29, Or.inr (Int64.not_lt.mp (fun q => h54 ((fr_hi (by omega) (by omega) hwh).mpr (Int64.not_le.mpr q))))⟩ | exact zk_t ⟨Or.inr (Int64.not_lt.mp (fun q => h38 ((fr_lo (by omega) (by omega) hwl).mpr (Int64.not_le.mpr q)))), Or.inl h45⟩ | exact zk_t ⟨Or.inr (Int64.not_lt.mp (fun q => h38 ((fr_lo (by omega) (by omega) hwl).mpr (Int64.not_le.mpr q)))), Or.inr (Int64.not_lt.mp (fun q => h54 ((fr_hi (by omega) (by omega) hwh).mpr (Int64.not_le.mpr q))))⟩ | exact zk_f (fun q => q.1.elim h29 ((fr_lo (by omega) (by omega) hwl).mp h38)) | exact zk_f (fun q => q.2.elim h45 ((fr_hi (by omega) (by omega) hwh).mp h54))) d_Mo_inFrame_62
      · skip
        refine lv_iconst (v := nI 1) hx hb d_Mo_inFrame_57 (by decide) ?_
        refine lv_goto (tgt := 62) hx hb d_Mo_inFrame_58 rfl ?_
        exact zk_zretR hx hb hr hlk hQ (by rw [hwg, inF_r]; first | exact zk_t ⟨Or.inl h29, Or.inl h45⟩ | exact zk_t ⟨Or.inl h29, Or.inr (Int64.not_lt.mp (fun q => h54 ((fr_hi (by omega) (by omega) hwh).mpr (Int64.not_le.mpr q))))⟩ | exact zk_t ⟨Or.inr (Int64.not_lt.mp (fun q => h38 ((fr_lo (by omega) (by omega) hwl).mpr (Int64.not_le.mpr q)))), Or.inl h45⟩ | exact zk_t ⟨Or.inr (Int64.not_lt.mp (fun q => h38 ((fr_lo (by omega) (by omega) hwl).mpr (Int64.not_le.mpr q)))), Or.inr (Int64.not_lt.mp (fun q => h54 ((fr_hi (by omega) (by omega) hwh).mpr (Int64.not_le.mpr q))))⟩ | exact zk_f (fun q => q.1.elim h29 ((fr_lo (by omega) (by omega) hwl).mp h38)) | exact zk_f (fun q => q.2.elim h45 ((fr_hi (by omega) (by omega) hwh).mp h54))) d_Mo_inFrame_62
  · skip
    refine lv_iload hx hb d_Mo_inFrame_32 (lv_at hl 6 rfl) ?_
    refine lv_iload_n hx hb d_Mo_inFrame_34 rfl (lv_at hl 5 rfl) ?_
    refine lv_iload hx hb d_Mo_inFrame_35 (lv_at hl 1 rfl) ?_
    refine lv_iadd hx hb d_Mo_inFrame_37 ?_
    refine lv_icmp_lt (tgt := 61) hx hb d_Mo_inFrame_38 rfl (fun h38 => ?_) (fun h38 => ?_)
    · skip
      refine lv_iconst (v := nI 0) hx hb d_Mo_inFrame_61 (by decide) ?_
      exact zk_zretR hx hb hr hlk hQ (by rw [hwg, inF_r]; first | exact zk_t ⟨Or.inl h29, Or.inl h45⟩ | exact zk_t ⟨Or.inl h29, Or.inr (Int64.not_lt.mp (fun q => h54 ((fr_hi (by omega) (by omega) hwh).mpr (Int64.not_le.mpr q))))⟩ | exact zk_t ⟨Or.inr (Int64.not_lt.mp (fun q => h38 ((fr_lo (by omega) (by omega) hwl).mpr (Int64.not_le.mpr q)))), Or.inl h45⟩ | exact zk_t ⟨Or.inr (Int64.not_lt.mp (fun q => h38 ((fr_lo (by omega) (by omega) hwl).mpr (Int64.not_le.mpr q)))), Or.inr (Int64.not_lt.mp (fun q => h54 ((fr_hi (by omega) (by omega) hwh).mpr (Int64.not_le.mpr q))))⟩ | exact zk_f (fun q => q.1.elim h29 ((fr_lo (by omega) (by omega) hwl).mp h38)) | exact zk_f (fun q => q.2.elim h45 ((fr_hi (by omega) (by omega) hwh).mp h54))) d_Mo_inFrame_62
    · skip
      refine lv_iload hx hb d_Mo_inFrame_41 (lv_at hl 0 rfl) ?_
      refine lv_bipush (v := nI 10) hx hb d_Mo_inFrame_43 (by decide) ?_
      refine lv_icmp_eq (tgt := 57) hx hb d_Mo_inFrame_45 rfl (fun h45 => ?_) (fun h45 => ?_)
      · skip
        refine lv_iconst (v := nI 1) hx hb d_Mo_inFrame_57 (by decide) ?_
        refine lv_goto (tgt := 62) hx hb d_Mo_inFrame_58 rfl ?_
        exact zk_zretR hx hb hr hlk hQ (by rw [hwg, inF_r]; first | exact zk_t ⟨Or.inl h29, Or.inl h45⟩ | exact zk_t ⟨Or.inl h29, Or.inr (Int64.not_lt.mp (fun q => h54 ((fr_hi (by omega) (by omega) hwh).mpr (Int64.not_le.mpr q))))⟩ | exact zk_t ⟨Or.inr (Int64.not_lt.mp (fun q => h38 ((fr_lo (by omega) (by omega) hwl).mpr (Int64.not_le.mpr q)))), Or.inl h45⟩ | exact zk_t ⟨Or.inr (Int64.not_lt.mp (fun q => h38 ((fr_lo (by omega) (by omega) hwl).mpr (Int64.not_le.mpr q)))), Or.inr (Int64.not_lt.mp (fun q => h54 ((fr_hi (by omega) (by omega) hwh).mpr (Int64.not_le.mpr q))))⟩ | exact zk_f (fun q => q.1.elim h29 ((fr_lo (by omega) (by omega) hwl).mp h38)) | exact zk_f (fun q => q.2.elim h45 ((fr_hi (by omega) (by omega) hwh).mp h54))) d_Mo_inFrame_62
      · skip
        refine lv_iload hx hb d_Mo_inFrame_48 (lv_at hl 6 rfl) ?_
        refine lv_iload_n hx hb d_Mo_inFrame_50 rfl (lv_at hl 5 rfl) ?_
        refine lv_iload hx hb d_Mo_inFrame_51 (lv_at hl 0 rfl) ?_
        refine lv_iadd hx hb d_Mo_inFrame_53 ?_
        refine lv_icmp_gt (tgt := 61) hx hb d_Mo_inFrame_54 rfl (fun h54 => ?_) (fun h54 => ?_)
        · skip
          refine lv_iconst (v := nI 0) hx hb d_Mo_inFrame_61 (by decide) ?_
          exact zk_zretR hx hb hr hlk hQ (by rw [hwg, inF_r]; first | exact zk_t ⟨Or.inl h29, Or.inl h45⟩ | exact zk_t ⟨Or.inl h29, Or.inr (Int64.not_lt.mp (fun q => h54 ((fr_hi (by omega) (by omega) hwh).mpr (Int64.not_le.mpr q))))⟩ | exact zk_t ⟨Or.inr (Int64.not_lt.mp (fun q => h38 ((fr_lo (by omega) (by omega) hwl).mpr (Int64.not_le.mpr q)))), Or.inl h45⟩ | exact zk_t ⟨Or.inr (Int64.not_lt.mp (fun q => h38 ((fr_lo (by omega) (by omega) hwl).mpr (Int64.not_le.mpr q)))), Or.inr (Int64.not_lt.mp (fun q => h54 ((fr_hi (by omega) (by omega) hwh).mpr (Int64.not_le.mpr q))))⟩ | exact zk_f (fun q => q.1.elim h29 ((fr_lo (by omega) (by omega) hwl).mp h38)) | exact zk_f (fun q => q.2.elim h45 ((fr_hi (by omega) (by omega) hwh).mp h54))) d_Mo_inFrame_62
        · skip
          refine lv_iconst (v := nI 1) hx hb d_Mo_inFrame_57 (by decide) ?_
          refine lv_goto (tgt := 62) hx hb d_Mo_inFrame_58 rfl ?_
          exact zk_zretR hx hb hr hlk hQ (by rw [hwg, inF_r]; first | exact zk_t ⟨Or.inl h29, Or.inl h45⟩ | exact zk_t ⟨Or.inl h29, Or.inr (Int64.not_lt.mp (fun q => h54 ((fr_hi (by omega) (by omega) hwh).mpr (Int64.not_le.mpr q))))⟩ | exact zk_t ⟨Or.inr (Int64.not_lt.mp (fun q => h38 ((fr_lo (by omega) (by omega) hwl).mpr (Int64.not_le.mpr q)))), Or.inl h45⟩ | exact zk_t ⟨Or.inr (Int64.not_lt.mp (fun q => h38 ((fr_lo (by omega) (by omega) hwl).mpr (Int64.not_le.mpr q)))), Or.inr (Int64.not_lt.mp (fun q => h54 ((fr_hi (by omega) (by omega) hwh).mpr (Int64.not_le.mpr q))))⟩ | exact zk_f (fun q => q.1.elim h29 ((fr_lo (by omega) (by omega) hwl).mp h38)) | exact zk_f (fun q => q.2.elim h45 ((fr_hi (by omega) (by omega) hwh).mp h54))) d_Mo_inFrame_62
set_option maxHeartbeats 4000000 in
set_option maxRecDepth 100000 in
theorem c_Mo_inFrame_t (l : Launch) (D : va_G) (cI cL cZ cW cR : ClassId) (o : Nat) (ϕ : Nat → Value) (a_wOrder a_wDown a_wRange a_wLow a_wHigh a_list a_value a_hole : Nat) (oo : Nat → Option Nat) (wd : Nat → Bool) (wg : Nat → Bool) (wl : Nat → Int32) (wh : Nat → Int32) (li : Nat → Nat) (vl : Nat → Int32) (hl_ : Nat → Bool) (w st i j : Nat) (hw : w < 3) (hi : i < 60) (hj : j < 60) (hli : ∀ z, z < 60 → li z < 60) (hwl : (-10 : Int32) ≤ wl w ∧ wl w ≤ nI 10) (hwh : (-10 : Int32) ≤ wh w ∧ wh w ≤ nI 10) (hwg : wg w = true) (oj : Nat) (hoj : oo w = some oj) (hoj2 : oj < 6) : Met l y_Mo_inFrame ws_Mo_inFrame rm0_0 (zPr D vwCl (zT cI cL cZ cW cR) [(o, .inr (9, [(ϕ 0), (ϕ 1), (ϕ 2), (ϕ 3), (ϕ 4), (ϕ 5), (ϕ 6), (ϕ 7), (ϕ 8), (ϕ 9), (ϕ 10), (ϕ 11), (ϕ 12), (ϕ 13), .ref a_wOrder, .ref a_wDown, .ref a_wRange, .ref a_wLow, .ref a_wHigh, (ϕ 19), (ϕ 20), (ϕ 21), (ϕ 22), (ϕ 23), (ϕ 24), .ref a_value, .ref a_hole, (ϕ 27), (ϕ 28), .ref a_list, (ϕ 30), (ϕ 31), (ϕ 32), (ϕ 33), (ϕ 34), (ϕ 35), (ϕ 36), (ϕ 37), (ϕ 38), (ϕ 39), (ϕ 40), (ϕ 41), (ϕ 42), (ϕ 43)])), (a_wOrder, .inl (cI, 3, .inl (zO oo))), (a_wDown, .inl (cZ, 3, .inl (zZ wd))), (a_wRange, .inl (cZ, 3, .inl (zZ wg))), (a_wLow, .inl (cI, 3, .inl wl)), (a_wHigh, .inl (cI, 3, .inl wh)), (a_list, .inl (cI, 60, .inl (zN li))), (a_value, .inl (cI, 540, .inl vl)), (a_hole, .inl (cZ, 540, .inl (zZ hl_)))] [.ref o, .int (nI w), .int (nI st), .int (nI i), .int (nI j)]) (zSi (zb (inF (mOl hl_ vl li (oo w)) (wd w) (wg w) (wl w) (wh w) i j))) 0 0 (fun _ => False) := by
  refine zk_enterR (cc := b_Mo_inFrame) (maxL := 11) (ret := some .boolean) (by decide) rfl (Nat.le_of_ble_eq_true rfl) ?_
  intro p e s m args below meth c ls Q hx hb hml hr hlk hown hts hP hK hN hl hQ
  have hl : lv_has ls 11 [(0, .ref o), (1, .int (nI w)), (2, .int (nI st)), (3, .int (nI i)), (4, .int (nI j))] := hl
  have hli1 := hli i hi
  have hli2 := hli j hj
  refine lv_aload_n hx hb d_Mo_inFrame_0 rfl (lv_at hl 0 rfl) ?_
  refine va_get (C := R_Mo) (T := F_Mo) (N := 44) hx hb hts (fun w h => List.mem_cons_of_mem _ (hin_Mo w h)) hown hK hP 0 rfl rfl 17 (by decide) (hts _ (List.mem_cons_of_mem _ fl_Mo_44)) (fun _ h => h) rfl d_Mo_inFrame_1 ?_
  refine lv_iload_n hx hb d_Mo_inFrame_4 rfl (lv_at hl 1 rfl) ?_
  refine zk_iald hx hb hK hP 4 0 rfl rfl (by omega) (by omega) d_Mo_inFrame_5 ?_
  refine lv_istore (lv' := [(5, .int (wl w)), (0, .ref o), (1, .int (nI w)), (2, .int (nI st)), (3, .int (nI i)), (4, .int (nI j))]) hx hb d_Mo_inFrame_6 hl (by decide) rfl (fun ls hl => ?_)
  refine lv_aload_n hx hb d_Mo_inFrame_8 rfl (lv_at hl 1 rfl) ?_
  refine va_get (C := R_Mo) (T := F_Mo) (N := 44) hx hb hts (fun w h => List.mem_cons_of_mem _ (hin_Mo w h)) hown hK hP 0 rfl rfl 18 (by decide) (hts _ (List.mem_cons_of_mem _ fl_Mo_47)) (fun _ h => h) rfl d_Mo_inFrame_9 ?_
  refine lv_iload_n hx hb d_Mo_inFrame_12 rfl (lv_at hl 2 rfl) ?_
  refine zk_iald hx hb hK hP 5 0 rfl rfl (by omega) (by omega) d_Mo_inFrame_13 ?_
  refine lv_istore (lv' := [(6, .int (wh w)), (5, .int (wl w)), (0, .ref o), (1, .int (nI w)), (2, .int (nI st)), (3, .int (nI i)), (4, .int (nI j))]) hx hb d_Mo_inFrame_14 hl (by decide) rfl (fun ls hl => ?_)
  refine lv_aload_n hx hb d_Mo_inFrame_16 rfl (lv_at hl 2 rfl) ?_
  refine va_get (C := R_Mo) (T := F_Mo) (N := 44) hx hb hts (fun w h => List.mem_cons_of_mem _ (hin_Mo w h)) hown hK hP 0 rfl rfl 16 (by decide) (hts _ (List.mem_cons_of_mem _ fl_Mo_41)) (fun _ h => h) rfl d_Mo_inFrame_17 ?_
  refine lv_iload_n hx hb d_Mo_inFrame_20 rfl (lv_at hl 3 rfl) ?_
  refine zk_bald hx hb hK hP 3 2 rfl rfl (by omega) (by omega) d_Mo_inFrame_21 ?_
  refine zk_ifb_ne (tgt := 63) hx hb d_Mo_inFrame_22 rfl (fun _ => ?_) (fun hq => absurd hq (fun q => Bool.false_ne_true (q.symm.trans hwg)))
  refine lv_bipush (v := nI 9) hx hb d_Mo_inFrame_63 (by decide) ?_
  refine lv_aload_n hx hb d_Mo_inFrame_65 rfl (lv_at hl 2 rfl) ?_
  refine va_get (C := R_Mo) (T := F_Mo) (N := 44) hx hb hts (fun w h => List.mem_cons_of_mem _ (hin_Mo w h)) hown hK hP 0 rfl rfl 29 (by decide) (hts _ (List.mem_cons_of_mem _ fl_Mo_65)) (fun _ h => h) rfl d_Mo_inFrame_66 ?_
  refine lv_iload_n hx hb d_Mo_inFrame_69 rfl (lv_at hl 5 rfl) ?_
  refine zk_nald hx hb hK hP 6 0 rfl rfl (by omega) (by omega) d_Mo_inFrame_70 ?_
  refine lv_imul hx hb d_Mo_inFrame_71 ?_
  refine zk_topi (show ((nI 9) * (nI (li i))) = nI (9 * (li i)) from pk_mul 9 (li i)) ?_
  refine lv_aload_n hx hb d_Mo_inFrame_72 rfl (lv_at hl 2 rfl) ?_
  refine va_get (C := R_Mo) (T := F_Mo) (N := 44) hx hb hts (fun w h => List.mem_cons_of_mem _ (hin_Mo w h)) hown hK hP 0 rfl rfl 14 (by decide) (hts _ (List.mem_cons_of_mem _ fl_Mo_34)) (fun _ h => h) rfl d_Mo_inFrame_73 ?_
  refine lv_iload_n hx hb d_Mo_inFrame_76 rfl (lv_at hl 3 rfl) ?_
  refine zk_oald hx hb hK hP 1 0 rfl rfl (by omega) (by omega) d_Mo_inFrame_77 ?_
  refine zk_topi (show (oI (oo w)) = nI oj from by rw [hoj]; rfl) ?_
  refine lv_iadd hx hb d_Mo_inFrame_78 ?_
  refine zk_topi (show ((nI (9 * (li i))) + (nI oj)) = nI (9 * (li i) + oj) from nI_add (9 * (li i)) oj) ?_
  refine lv_istore (lv' := [(7, .int (nI (9 * (li i) + oj))), (6, .int (wh w)), (5, .int (wl w)), (0, .ref o), (1, .int (nI w)), (2, .int (nI st)), (3, .int (nI i)), (4, .int (nI j))]) hx hb d_Mo_inFrame_79 hl (by decide) rfl (fun ls hl => ?_)
  refine lv_bipush (v := nI 9) hx hb d_Mo_inFrame_81 (by decide) ?_
  refine lv_aload_n hx hb d_Mo_inFrame_83 rfl (lv_at hl 3 rfl) ?_
  refine va_get (C := R_Mo) (T := F_Mo) (N := 44) hx hb hts (fun w h => List.mem_cons_of_mem _ (hin_Mo w h)) hown hK hP 0 rfl rfl 29 (by decide) (hts _ (List.mem_cons_of_mem _ fl_Mo_65)) (fun _ h => h) rfl d_Mo_inFrame_84 ?_
  refine lv_iload hx hb d_Mo_inFrame_87 (lv_at hl 7 rfl) ?_
  refine zk_nald hx hb hK hP 6 0 rfl rfl (by omega) (by omega) d_Mo_inFrame_89 ?_
  refine lv_imul hx hb d_Mo_inFrame_90 ?_
  refine zk_topi (show ((nI 9) * (nI (li j))) = nI (9 * (li j)) from pk_mul 9 (li j)) ?_
  refine lv_aload_n hx hb d_Mo_inFrame_91 rfl (lv_at hl 3 rfl) ?_
  refine va_get (C := R_Mo) (T := F_Mo) (N := 44) hx hb hts (fun w h => List.mem_cons_of_mem _ (hin_Mo w h)) hown hK hP 0 rfl rfl 14 (by decide) (hts _ (List.mem_cons_of_mem _ fl_Mo_34)) (fun _ h => h) rfl d_Mo_inFrame_92 ?_
  refine lv_iload_n hx hb d_Mo_inFrame_95 rfl (lv_at hl 4 rfl) ?_
  refine zk_oald hx hb hK hP 1 0 rfl rfl (by omega) (by omega) d_Mo_inFrame_96 ?_
  refine zk_topi (show (oI (oo w)) = nI oj from by rw [hoj]; rfl) ?_
  refine lv_iadd hx hb d_Mo_inFrame_97 ?_
  refine zk_topi (show ((nI (9 * (li j))) + (nI oj)) = nI (9 * (li j) + oj) from nI_add (9 * (li j)) oj) ?_
  refine lv_istore (lv' := [(8, .int (nI (9 * (li j) + oj))), (7, .int (nI (9 * (li i) + oj))), (6, .int (wh w)), (5, .int (wl w)), (0, .ref o), (1, .int (nI w)), (2, .int (nI st)), (3, .int (nI i)), (4, .int (nI j))]) hx hb d_Mo_inFrame_98 hl (by decide) rfl (fun ls hl => ?_)
  refine lv_aload_n hx hb d_Mo_inFrame_100 rfl (lv_at hl 4 rfl) ?_
  refine va_get (C := R_Mo) (T := F_Mo) (N := 44) hx hb hts (fun w h => List.mem_cons_of_mem _ (hin_Mo w h)) hown hK hP 0 rfl rfl 26 (by decide) (hts _ (List.mem_cons_of_mem _ fl_Mo_56)) (fun _ h => h) rfl d_Mo_inFrame_101 ?_
  refine lv_iload hx hb d_Mo_inFrame_104 (lv_at hl 1 rfl) ?_
  refine zk_bald hx hb hK hP 8 2 rfl rfl (by omega) (by omega) d_Mo_inFrame_106 ?_
  refine zk_ifb_ne (tgt := 120) hx hb d_Mo_inFrame_107 rfl (fun h107 => ?_) (fun h107 => ?_)
  · skip
    refine lv_aload_n hx hb d_Mo_inFrame_120 rfl (lv_at hl 4 rfl) ?_
    refine va_get (C := R_Mo) (T := F_Mo) (N := 44) hx hb hts (fun w h => List.mem_cons_of_mem _ (hin_Mo w h)) hown hK hP 0 rfl rfl 26 (by decide) (hts _ (List.mem_cons_of_mem _ fl_Mo_56)) (fun _ h => h) rfl d_Mo_inFrame_121 ?_
    refine lv_iload hx hb d_Mo_inFrame_124 (lv_at hl 1 rfl) ?_
    refine zk_bald hx hb hK hP 8 2 rfl rfl (by omega) (by omega) d_Mo_inFrame_126 ?_
    refine zk_ifb_eq (tgt := 144) hx hb d_Mo_inFrame_127 rfl (fun h127 => ?_) (fun h127 => ?_)
    · skip
      refine lv_iconst (v := nI 0) hx hb d_Mo_inFrame_144 (by decide) ?_
      exact zk_zretR hx hb hr hlk hQ (by rw [hwg, hoj]; refine Eq.trans ?_ (congrArg zb (inF_h (u := fun z => mCol hl_ vl oj (li z)) (i := i) (j := j) (ha := hl_ (9 * (li i) + oj)) (hb := hl_ (9 * (li j) + oj)) rfl rfl (by first | exact Or.inl h107 | exact Or.inr h117)).symm); first | exact absurd (h107.symm.trans h127) (by decide) | (rw [h127, h137]; rfl) | (rw [h127]; rfl)) d_Mo_inFrame_145
    · skip
      refine lv_aload_n hx hb d_Mo_inFrame_130 rfl (lv_at hl 4 rfl) ?_
      refine va_get (C := R_Mo) (T := F_Mo) (N := 44) hx hb hts (fun w h => List.mem_cons_of_mem _ (hin_Mo w h)) hown hK hP 0 rfl rfl 26 (by decide) (hts _ (List.mem_cons_of_mem _ fl_Mo_56)) (fun _ h => h) rfl d_Mo_inFrame_131 ?_
      refine lv_iload hx hb d_Mo_inFrame_134 (lv_at hl 0 rfl) ?_
      refine zk_bald hx hb hK hP 8 2 rfl rfl (by omega) (by omega) d_Mo_inFrame_136 ?_
      refine zk_ifb_eq (tgt := 144) hx hb d_Mo_inFrame_137 rfl (fun h137 => ?_) (fun h137 => ?_)
      · skip
        refine lv_iconst (v := nI 0) hx hb d_Mo_inFrame_144 (by decide) ?_
        exact zk_zretR hx hb hr hlk hQ (by rw [hwg, hoj]; refine Eq.trans ?_ (congrArg zb (inF_h (u := fun z => mCol hl_ vl oj (li z)) (i := i) (j := j) (ha := hl_ (9 * (li i) + oj)) (hb := hl_ (9 * (li j) + oj)) rfl rfl (by first | exact Or.inl h107 | exact Or.inr h117)).symm); first | exact absurd (h107.symm.trans h127) (by decide) | (rw [h127, h137]; rfl) | (rw [h127]; rfl)) d_Mo_inFrame_145
      · skip
        refine lv_iconst (v := nI 1) hx hb d_Mo_inFrame_140 (by decide) ?_
        refine lv_goto (tgt := 145) hx hb d_Mo_inFrame_141 rfl ?_
        exact zk_zretR hx hb hr hlk hQ (by rw [hwg, hoj]; refine Eq.trans ?_ (congrArg zb (inF_h (u := fun z => mCol hl_ vl oj (li z)) (i := i) (j := j) (ha := hl_ (9 * (li i) + oj)) (hb := hl_ (9 * (li j) + oj)) rfl rfl (by first | exact Or.inl h107 | exact Or.inr h117)).symm); first | exact absurd (h107.symm.trans h127) (by decide) | (rw [h127, h137]; rfl) | (rw [h127]; rfl)) d_Mo_inFrame_145
  · skip
    refine lv_aload_n hx hb d_Mo_inFrame_110 rfl (lv_at hl 4 rfl) ?_
    refine va_get (C := R_Mo) (T := F_Mo) (N := 44) hx hb hts (fun w h => List.mem_cons_of_mem _ (hin_Mo w h)) hown hK hP 0 rfl rfl 26 (by decide) (hts _ (List.mem_cons_of_mem _ fl_Mo_56)) (fun _ h => h) rfl d_Mo_inFrame_111 ?_
    refine lv_iload hx hb d_Mo_inFrame_114 (lv_at hl 0 rfl) ?_
    refine zk_bald hx hb hK hP 8 2 rfl rfl (by omega) (by omega) d_Mo_inFrame_116 ?_
    refine zk_ifb_eq (tgt := 146) hx hb d_Mo_inFrame_117 rfl (fun h117 => ?_) (fun h117 => ?_)
    · skip
      refine lv_aload_n hx hb d_Mo_inFrame_146 rfl (lv_at hl 4 rfl) ?_
      refine va_get (C := R_Mo) (T := F_Mo) (N := 44) hx hb hts (fun w h => List.mem_cons_of_mem _ (hin_Mo w h)) hown hK hP 0 rfl rfl 25 (by decide) (hts _ (List.mem_cons_of_mem _ fl_Mo_53)) (fun _ h => h) rfl d_Mo_inFrame_147 ?_
      refine lv_iload hx hb d_Mo_inFrame_150 (lv_at hl 0 rfl) ?_
      refine zk_iald hx hb hK hP 7 0 rfl rfl (by omega) (by omega) d_Mo_inFrame_152 ?_
      refine lv_i2l (v := (vl (9 * (li j) + oj)).toInt64) hx hb d_Mo_inFrame_153 (rfl) ?_
      refine lv_aload_n hx hb d_Mo_inFrame_154 rfl (lv_at hl 4 rfl) ?_
      refine va_get (C := R_Mo) (T := F_Mo) (N := 44) hx hb hts (fun w h => List.mem_cons_of_mem _ (hin_Mo w h)) hown hK hP 0 rfl rfl 25 (by decide) (hts _ (List.mem_cons_of_mem _ fl_Mo_53)) (fun _ h => h) rfl d_Mo_inFrame_155 ?_
      refine lv_iload hx hb d_Mo_inFrame_158 (lv_at hl 1 rfl) ?_
      refine zk_iald hx hb hK hP 7 0 rfl rfl (by omega) (by omega) d_Mo_inFrame_160 ?_
      refine lv_i2l (v := (vl (9 * (li i) + oj)).toInt64) hx hb d_Mo_inFrame_161 (rfl) ?_
      refine lv_lsub hx hb d_Mo_inFrame_162 ?_
      refine lv_lstore (lv' := [(9, .long (((vl (9 * (li j) + oj)).toInt64) - ((vl (9 * (li i) + oj)).toInt64))), (8, .int (nI (9 * (li j) + oj))), (7, .int (nI (9 * (li i) + oj))), (6, .int (wh w)), (5, .int (wl w)), (0, .ref o), (1, .int (nI w)), (2, .int (nI st)), (3, .int (nI i)), (4, .int (nI j))]) hx hb d_Mo_inFrame_163 hl (by decide) rfl (fun ls hl => ?_)
      refine lv_aload_n hx hb d_Mo_inFrame_165 rfl (lv_at hl 5 rfl) ?_
      refine va_get (C := R_Mo) (T := F_Mo) (N := 44) hx hb hts (fun w h => List.mem_cons_of_mem _ (hin_Mo w h)) hown hK hP 0 rfl rfl 15 (by decide) (hts _ (List.mem_cons_of_mem _ fl_Mo_37)) (fun _ h => h) rfl d_Mo_inFrame_166 ?_
      refine lv_iload_n hx hb d_Mo_inFrame_169 rfl (lv_at hl 6 rfl) ?_
      refine zk_bald hx hb hK hP 2 2 rfl rfl (by omega) (by omega) d_Mo_inFrame_170 ?_
      refine zk_ifb_eq (tgt := 180) hx hb d_Mo_inFrame_171 rfl (fun h171 => ?_) (fun h171 => ?_)
      · skip
        refine lv_lload hx hb d_Mo_inFrame_180 (lv_at hl 0 rfl) ?_
        refine lv_lstore (lv' := [(9, .long (((vl (9 * (li j) + oj)).toInt64) - ((vl (9 * (li i) + oj)).toInt64))), (8, .int (nI (9 * (li j) + oj))), (7, .int (nI (9 * (li i) + oj))), (6, .int (wh w)), (5, .int (wl w)), (0, .ref o), (1, .int (nI w)), (2, .int (nI st)), (3, .int (nI i)), (4, .int (nI j))]) hx hb d_Mo_inFrame_182 hl (by decide) rfl (fun ls hl => ?_)
        refine lv_iload hx hb d_Mo_inFrame_184 (lv_at hl 4 rfl) ?_
        refine lv_bipush (v := (-10)) hx hb d_Mo_inFrame_186 (by decide) ?_
        refine lv_icmp_eq (tgt := 200) hx hb d_Mo_inFrame_188 rfl (fun h188 => ?_) (fun h188 => ?_)
        · skip
          refine lv_iload hx hb d_Mo_inFrame_200 (lv_at hl 3 rfl) ?_
          refine lv_bipush (v := nI 10) hx hb d_Mo_inFrame_202 (by decide) ?_
          refine lv_icmp_eq (tgt := 216) hx hb d_Mo_inFrame_204 rfl (fun h204 => ?_) (fun h204 => ?_)
          · skip
            refine lv_iconst (v := nI 1) hx hb d_Mo_inFrame_216 (by decide) ?_
            refine lv_goto (tgt := 221) hx hb d_Mo_inFrame_217 rfl ?_
            exact zk_zretR hx hb hr hlk hQ (by rw [hwg, hoj]; refine Eq.trans ?_ (congrArg zb (inF_v (u := fun z => mCol hl_ vl oj (li z)) (i := i) (j := j) (va := vl (9 * (li i) + oj)) (vb := vl (9 * (li j) + oj)) (congrArg (fun b => enc b (vl (9 * (li i) + oj))) h107) (congrArg (fun b => enc b (vl (9 * (li j) + oj))) h117)).symm); rw [h171]; first | (rw [if_pos rfl, ← neg_sub64]; first | exact zk_t ⟨Or.inl h188, Or.inl h204⟩ | exact zk_t ⟨Or.inl h188, Or.inr (Int64.not_lt.mp (fun q => h213 ((lg_cmp_gt _ _).mpr q)))⟩ | exact zk_t ⟨Or.inr (Int64.not_lt.mp (fun q => h197 ((lg_cmp_lt _ _).mpr q))), Or.inl h204⟩ | exact zk_t ⟨Or.inr (Int64.not_lt.mp (fun q => h197 ((lg_cmp_lt _ _).mpr q))), Or.inr (Int64.not_lt.mp (fun q => h213 ((lg_cmp_gt _ _).mpr q)))⟩ | exact zk_f (fun q => q.1.elim h188 (fun y => absurd ((lg_cmp_lt _ _).mp h197) (Int64.not_lt.mpr y))) | exact zk_f (fun q => q.2.elim h204 (fun y => absurd ((lg_cmp_gt _ _).mp h213) (Int64.not_lt.mpr y)))) | (rw [if_neg Bool.false_ne_true]; first | exact zk_t ⟨Or.inl h188, Or.inl h204⟩ | exact zk_t ⟨Or.inl h188, Or.inr (Int64.not_lt.mp (fun q => h213 ((lg_cmp_gt _ _).mpr q)))⟩ | exact zk_t ⟨Or.inr (Int64.not_lt.mp (fun q => h197 ((lg_cmp_lt _ _).mpr q))), Or.inl h204⟩ | exact zk_t ⟨Or.inr (Int64.not_lt.mp (fun q => h197 ((lg_cmp_lt _ _).mpr q))), Or.inr (Int64.not_lt.mp (fun q => h213 ((lg_cmp_gt _ _).mpr q)))⟩ | exact zk_f (fun q => q.1.elim h188 (fun y => absurd ((lg_cmp_lt _ _).mp h197) (Int64.not_lt.mpr y))) | exact zk_f (fun q => q.2.elim h204 (fun y => absurd ((lg_cmp_gt _ _).mp h213) (Int64.not_lt.mpr y))))) d_Mo_inFrame_221
          · skip
            refine lv_lload hx hb d_Mo_inFrame_207 (lv_at hl 0 rfl) ?_
            refine lv_iload hx hb d_Mo_inFrame_209 (lv_at hl 3 rfl) ?_
            refine lv_i2l (v := (wh w).toInt64) hx hb d_Mo_inFrame_211 (rfl) ?_
            refine W.lcmp hx hb d_Mo_inFrame_212 ?_
            refine lv_if_gt (tgt := 220) hx hb d_Mo_inFrame_213 rfl (fun h213 => ?_) (fun h213 => ?_)
            · skip
              refine lv_iconst (v := nI 0) hx hb d_Mo_inFrame_220 (by decide) ?_
              exact zk_zretR hx hb hr hlk hQ (by rw [hwg, hoj]; refine Eq.trans ?_ (congrArg zb (inF_v (u := fun z => mCol hl_ vl oj (li z)) (i := i) (j := j) (va := vl (9 * (li i) + oj)) (vb := vl (9 * (li j) + oj)) (congrArg (fun b => enc b (vl (9 * (li i) + oj))) h107) (congrArg (fun b => enc b (vl (9 * (li j) + oj))) h117)).symm); rw [h171]; first | (rw [if_pos rfl, ← neg_sub64]; first | exact zk_t ⟨Or.inl h188, Or.inl h204⟩ | exact zk_t ⟨Or.inl h188, Or.inr (Int64.not_lt.mp (fun q => h213 ((lg_cmp_gt _ _).mpr q)))⟩ | exact zk_t ⟨Or.inr (Int64.not_lt.mp (fun q => h197 ((lg_cmp_lt _ _).mpr q))), Or.inl h204⟩ | exact zk_t ⟨Or.inr (Int64.not_lt.mp (fun q => h197 ((lg_cmp_lt _ _).mpr q))), Or.inr (Int64.not_lt.mp (fun q => h213 ((lg_cmp_gt _ _).mpr q)))⟩ | exact zk_f (fun q => q.1.elim h188 (fun y => absurd ((lg_cmp_lt _ _).mp h197) (Int64.not_lt.mpr y))) | exact zk_f (fun q => q.2.elim h204 (fun y => absurd ((lg_cmp_gt _ _).mp h213) (Int64.not_lt.mpr y)))) | (rw [if_neg Bool.false_ne_true]; first | exact zk_t ⟨Or.inl h188, Or.inl h204⟩ | exact zk_t ⟨Or.inl h188, Or.inr (Int64.not_lt.mp (fun q => h213 ((lg_cmp_gt _ _).mpr q)))⟩ | exact zk_t ⟨Or.inr (Int64.not_lt.mp (fun q => h197 ((lg_cmp_lt _ _).mpr q))), Or.inl h204⟩ | exact zk_t ⟨Or.inr (Int64.not_lt.mp (fun q => h197 ((lg_cmp_lt _ _).mpr q))), Or.inr (Int64.not_lt.mp (fun q => h213 ((lg_cmp_gt _ _).mpr q)))⟩ | exact zk_f (fun q => q.1.elim h188 (fun y => absurd ((lg_cmp_lt _ _).mp h197) (Int64.not_lt.mpr y))) | exact zk_f (fun q => q.2.elim h204 (fun y => absurd ((lg_cmp_gt _ _).mp h213) (Int64.not_lt.mpr y))))) d_Mo_inFrame_221
            · skip
              refine lv_iconst (v := nI 1) hx hb d_Mo_inFrame_216 (by decide) ?_
              refine lv_goto (tgt := 221) hx hb d_Mo_inFrame_217 rfl ?_
              exact zk_zretR hx hb hr hlk hQ (by rw [hwg, hoj]; refine Eq.trans ?_ (congrArg zb (inF_v (u := fun z => mCol hl_ vl oj (li z)) (i := i) (j := j) (va := vl (9 * (li i) + oj)) (vb := vl (9 * (li j) + oj)) (congrArg (fun b => enc b (vl (9 * (li i) + oj))) h107) (congrArg (fun b => enc b (vl (9 * (li j) + oj))) h117)).symm); rw [h171]; first | (rw [if_pos rfl, ← neg_sub64]; first | exact zk_t ⟨Or.inl h188, Or.inl h204⟩ | exact zk_t ⟨Or.inl h188, Or.inr (Int64.not_lt.mp (fun q => h213 ((lg_cmp_gt _ _).mpr q)))⟩ | exact zk_t ⟨Or.inr (Int64.not_lt.mp (fun q => h197 ((lg_cmp_lt _ _).mpr q))), Or.inl h204⟩ | exact zk_t ⟨Or.inr (Int64.not_lt.mp (fun q => h197 ((lg_cmp_lt _ _).mpr q))), Or.inr (Int64.not_lt.mp (fun q => h213 ((lg_cmp_gt _ _).mpr q)))⟩ | exact zk_f (fun q => q.1.elim h188 (fun y => absurd ((lg_cmp_lt _ _).mp h197) (Int64.not_lt.mpr y))) | exact zk_f (fun q => q.2.elim h204 (fun y => absurd ((lg_cmp_gt _ _).mp h213) (Int64.not_lt.mpr y)))) | (rw [if_neg Bool.false_ne_true]; first | exact zk_t ⟨Or.inl h188, Or.inl h204⟩ | exact zk_t ⟨Or.inl h188, Or.inr (Int64.not_lt.mp (fun q => h213 ((lg_cmp_gt _ _).mpr q)))⟩ | exact zk_t ⟨Or.inr (Int64.not_lt.mp (fun q => h197 ((lg_cmp_lt _ _).mpr q))), Or.inl h204⟩ | exact zk_t ⟨Or.inr (Int64.not_lt.mp (fun q => h197 ((lg_cmp_lt _ _).mpr q))), Or.inr (Int64.not_lt.mp (fun q => h213 ((lg_cmp_gt _ _).mpr q)))⟩ | exact zk_f (fun q => q.1.elim h188 (fun y => absurd ((lg_cmp_lt _ _).mp h197) (Int64.not_lt.mpr y))) | exact zk_f (fun q => q.2.elim h204 (fun y => absurd ((lg_cmp_gt _ _).mp h213) (Int64.not_lt.mpr y))))) d_Mo_inFrame_221
        · skip
          refine lv_lload hx hb d_Mo_inFrame_191 (lv_at hl 0 rfl) ?_
          refine lv_iload hx hb d_Mo_inFrame_193 (lv_at hl 4 rfl) ?_
          refine lv_i2l (v := (wl w).toInt64) hx hb d_Mo_inFrame_195 (rfl) ?_
          refine W.lcmp hx hb d_Mo_inFrame_196 ?_
          refine lv_if_lt (tgt := 220) hx hb d_Mo_inFrame_197 rfl (fun h197 => ?_) (fun h197 => ?_)
          · skip
            refine lv_iconst (v := nI 0) hx hb d_Mo_inFrame_220 (by decide) ?_
            exact zk_zretR hx hb hr hlk hQ (by rw [hwg, hoj]; refine Eq.trans ?_ (congrArg zb (inF_v (u := fun z => mCol hl_ vl oj (li z)) (i := i) (j := j) (va := vl (9 * (li i) + oj)) (vb := vl (9 * (li j) + oj)) (congrArg (fun b => enc b (vl (9 * (li i) + oj))) h107) (congrArg (fun b => enc b (vl (9 * (li j) + oj))) h117)).symm); rw [h171]; first | (rw [if_pos rfl, ← neg_sub64]; first | exact zk_t ⟨Or.inl h188, Or.inl h204⟩ | exact zk_t ⟨Or.inl h188, Or.inr (Int64.not_lt.mp (fun q => h213 ((lg_cmp_gt _ _).mpr q)))⟩ | exact zk_t ⟨Or.inr (Int64.not_lt.mp (fun q => h197 ((lg_cmp_lt _ _).mpr q))), Or.inl h204⟩ | exact zk_t ⟨Or.inr (Int64.not_lt.mp (fun q => h197 ((lg_cmp_lt _ _).mpr q))), Or.inr (Int64.not_lt.mp (fun q => h213 ((lg_cmp_gt _ _).mpr q)))⟩ | exact zk_f (fun q => q.1.elim h188 (fun y => absurd ((lg_cmp_lt _ _).mp h197) (Int64.not_lt.mpr y))) | exact zk_f (fun q => q.2.elim h204 (fun y => absurd ((lg_cmp_gt _ _).mp h213) (Int64.not_lt.mpr y)))) | (rw [if_neg Bool.false_ne_true]; first | exact zk_t ⟨Or.inl h188, Or.inl h204⟩ | exact zk_t ⟨Or.inl h188, Or.inr (Int64.not_lt.mp (fun q => h213 ((lg_cmp_gt _ _).mpr q)))⟩ | exact zk_t ⟨Or.inr (Int64.not_lt.mp (fun q => h197 ((lg_cmp_lt _ _).mpr q))), Or.inl h204⟩ | exact zk_t ⟨Or.inr (Int64.not_lt.mp (fun q => h197 ((lg_cmp_lt _ _).mpr q))), Or.inr (Int64.not_lt.mp (fun q => h213 ((lg_cmp_gt _ _).mpr q)))⟩ | exact zk_f (fun q => q.1.elim h188 (fun y => absurd ((lg_cmp_lt _ _).mp h197) (Int64.not_lt.mpr y))) | exact zk_f (fun q => q.2.elim h204 (fun y => absurd ((lg_cmp_gt _ _).mp h213) (Int64.not_lt.mpr y))))) d_Mo_inFrame_221
          · skip
            refine lv_iload hx hb d_Mo_inFrame_200 (lv_at hl 3 rfl) ?_
            refine lv_bipush (v := nI 10) hx hb d_Mo_inFrame_202 (by decide) ?_
            refine lv_icmp_eq (tgt := 216) hx hb d_Mo_inFrame_204 rfl (fun h204 => ?_) (fun h204 => ?_)
            · skip
              refine lv_iconst (v := nI 1) hx hb d_Mo_inFrame_216 (by decide) ?_
              refine lv_goto (tgt := 221) hx hb d_Mo_inFrame_217 rfl ?_
              exact zk_zretR hx hb hr hlk hQ (by rw [hwg, hoj]; refine Eq.trans ?_ (congrArg zb (inF_v (u := fun z => mCol hl_ vl oj (li z)) (i := i) (j := j) (va := vl (9 * (li i) + oj)) (vb := vl (9 * (li j) + oj)) (congrArg (fun b => enc b (vl (9 * (li i) + oj))) h107) (congrArg (fun b => enc b (vl (9 * (li j) + oj))) h117)).symm); rw [h171]; first | (rw [if_pos rfl, ← neg_sub64]; first | exact zk_t ⟨Or.inl h188, Or.inl h204⟩ | exact zk_t ⟨Or.inl h188, Or.inr (Int64.not_lt.mp (fun q => h213 ((lg_cmp_gt _ _).mpr q)))⟩ | exact zk_t ⟨Or.inr (Int64.not_lt.mp (fun q => h197 ((lg_cmp_lt _ _).mpr q))), Or.inl h204⟩ | exact zk_t ⟨Or.inr (Int64.not_lt.mp (fun q => h197 ((lg_cmp_lt _ _).mpr q))), Or.inr (Int64.not_lt.mp (fun q => h213 ((lg_cmp_gt _ _).mpr q)))⟩ | exact zk_f (fun q => q.1.elim h188 (fun y => absurd ((lg_cmp_lt _ _).mp h197) (Int64.not_lt.mpr y))) | exact zk_f (fun q => q.2.elim h204 (fun y => absurd ((lg_cmp_gt _ _).mp h213) (Int64.not_lt.mpr y)))) | (rw [if_neg Bool.false_ne_true]; first | exact zk_t ⟨Or.inl h188, Or.inl h204⟩ | exact zk_t ⟨Or.inl h188, Or.inr (Int64.not_lt.mp (fun q => h213 ((lg_cmp_gt _ _).mpr q)))⟩ | exact zk_t ⟨Or.inr (Int64.not_lt.mp (fun q => h197 ((lg_cmp_lt _ _).mpr q))), Or.inl h204⟩ | exact zk_t ⟨Or.inr (Int64.not_lt.mp (fun q => h197 ((lg_cmp_lt _ _).mpr q))), Or.inr (Int64.not_lt.mp (fun q => h213 ((lg_cmp_gt _ _).mpr q)))⟩ | exact zk_f (fun q => q.1.elim h188 (fun y => absurd ((lg_cmp_lt _ _).mp h197) (Int64.not_lt.mpr y))) | exact zk_f (fun q => q.2.elim h204 (fun y => absurd ((lg_cmp_gt _ _).mp h213) (Int64.not_lt.mpr y))))) d_Mo_inFrame_221
            · skip
              refine lv_lload hx hb d_Mo_inFrame_207 (lv_at hl 0 rfl) ?_
              refine lv_iload hx hb d_Mo_inFrame_209 (lv_at hl 3 rfl) ?_
              refine lv_i2l (v := (wh w).toInt64) hx hb d_Mo_inFrame_211 (rfl) ?_
              refine W.lcmp hx hb d_Mo_inFrame_212 ?_
              refine lv_if_gt (tgt := 220) hx hb d_Mo_inFrame_213 rfl (fun h213 => ?_) (fun h213 => ?_)
              · skip
                refine lv_iconst (v := nI 0) hx hb d_Mo_inFrame_220 (by decide) ?_
                exact zk_zretR hx hb hr hlk hQ (by rw [hwg, hoj]; refine Eq.trans ?_ (congrArg zb (inF_v (u := fun z => mCol hl_ vl oj (li z)) (i := i) (j := j) (va := vl (9 * (li i) + oj)) (vb := vl (9 * (li j) + oj)) (congrArg (fun b => enc b (vl (9 * (li i) + oj))) h107) (congrArg (fun b => enc b (vl (9 * (li j) + oj))) h117)).symm); rw [h171]; first | (rw [if_pos rfl, ← neg_sub64]; first | exact zk_t ⟨Or.inl h188, Or.inl h204⟩ | exact zk_t ⟨Or.inl h188, Or.inr (Int64.not_lt.mp (fun q => h213 ((lg_cmp_gt _ _).mpr q)))⟩ | exact zk_t ⟨Or.inr (Int64.not_lt.mp (fun q => h197 ((lg_cmp_lt _ _).mpr q))), Or.inl h204⟩ | exact zk_t ⟨Or.inr (Int64.not_lt.mp (fun q => h197 ((lg_cmp_lt _ _).mpr q))), Or.inr (Int64.not_lt.mp (fun q => h213 ((lg_cmp_gt _ _).mpr q)))⟩ | exact zk_f (fun q => q.1.elim h188 (fun y => absurd ((lg_cmp_lt _ _).mp h197) (Int64.not_lt.mpr y))) | exact zk_f (fun q => q.2.elim h204 (fun y => absurd ((lg_cmp_gt _ _).mp h213) (Int64.not_lt.mpr y)))) | (rw [if_neg Bool.false_ne_true]; first | exact zk_t ⟨Or.inl h188, Or.inl h204⟩ | exact zk_t ⟨Or.inl h188, Or.inr (Int64.not_lt.mp (fun q => h213 ((lg_cmp_gt _ _).mpr q)))⟩ | exact zk_t ⟨Or.inr (Int64.not_lt.mp (fun q => h197 ((lg_cmp_lt _ _).mpr q))), Or.inl h204⟩ | exact zk_t ⟨Or.inr (Int64.not_lt.mp (fun q => h197 ((lg_cmp_lt _ _).mpr q))), Or.inr (Int64.not_lt.mp (fun q => h213 ((lg_cmp_gt _ _).mpr q)))⟩ | exact zk_f (fun q => q.1.elim h188 (fun y => absurd ((lg_cmp_lt _ _).mp h197) (Int64.not_lt.mpr y))) | exact zk_f (fun q => q.2.elim h204 (fun y => absurd ((lg_cmp_gt _ _).mp h213) (Int64.not_lt.mpr y))))) d_Mo_inFrame_221
              · skip
                refine lv_iconst (v := nI 1) hx hb d_Mo_inFrame_216 (by decide) ?_
                refine lv_goto (tgt := 221) hx hb d_Mo_inFrame_217 rfl ?_
                exact zk_zretR hx hb hr hlk hQ (by rw [hwg, hoj]; refine Eq.trans ?_ (congrArg zb (inF_v (u := fun z => mCol hl_ vl oj (li z)) (i := i) (j := j) (va := vl (9 * (li i) + oj)) (vb := vl (9 * (li j) + oj)) (congrArg (fun b => enc b (vl (9 * (li i) + oj))) h107) (congrArg (fun b => enc b (vl (9 * (li j) + oj))) h117)).symm); rw [h171]; first | (rw [if_pos rfl, ← neg_sub64]; first | exact zk_t ⟨Or.inl h188, Or.inl h204⟩ | exact zk_t ⟨Or.inl h188, Or.inr (Int64.not_lt.mp (fun q => h213 ((lg_cmp_gt _ _).mpr q)))⟩ | exact zk_t ⟨Or.inr (Int64.not_lt.mp (fun q => h197 ((lg_cmp_lt _ _).mpr q))), Or.inl h204⟩ | exact zk_t ⟨Or.inr (Int64.not_lt.mp (fun q => h197 ((lg_cmp_lt _ _).mpr q))), Or.inr (Int64.not_lt.mp (fun q => h213 ((lg_cmp_gt _ _).mpr q)))⟩ | exact zk_f (fun q => q.1.elim h188 (fun y => absurd ((lg_cmp_lt _ _).mp h197) (Int64.not_lt.mpr y))) | exact zk_f (fun q => q.2.elim h204 (fun y => absurd ((lg_cmp_gt _ _).mp h213) (Int64.not_lt.mpr y)))) | (rw [if_neg Bool.false_ne_true]; first | exact zk_t ⟨Or.inl h188, Or.inl h204⟩ | exact zk_t ⟨Or.inl h188, Or.inr (Int64.not_lt.mp (fun q => h213 ((lg_cmp_gt _ _).mpr q)))⟩ | exact zk_t ⟨Or.inr (Int64.not_lt.mp (fun q => h197 ((lg_cmp_lt _ _).mpr q))), Or.inl h204⟩ | exact zk_t ⟨Or.inr (Int64.not_lt.mp (fun q => h197 ((lg_cmp_lt _ _).mpr q))), Or.inr (Int64.not_lt.mp (fun q => h213 ((lg_cmp_gt _ _).mpr q)))⟩ | exact zk_f (fun q => q.1.elim h188 (fun y => absurd ((lg_cmp_lt _ _).mp h197) (Int64.not_lt.mpr y))) | exact zk_f (fun q => q.2.elim h204 (fun y => absurd ((lg_cmp_gt _ _).mp h213) (Int64.not_lt.mpr y))))) d_Mo_inFrame_221
      · skip
        refine lv_lload hx hb d_Mo_inFrame_174 (lv_at hl 0 rfl) ?_
        refine lv_lneg hx hb d_Mo_inFrame_176 ?_
        refine lv_goto (tgt := 182) hx hb d_Mo_inFrame_177 rfl ?_
        refine lv_lstore (lv' := [(9, .long (-(((vl (9 * (li j) + oj)).toInt64) - ((vl (9 * (li i) + oj)).toInt64)))), (8, .int (nI (9 * (li j) + oj))), (7, .int (nI (9 * (li i) + oj))), (6, .int (wh w)), (5, .int (wl w)), (0, .ref o), (1, .int (nI w)), (2, .int (nI st)), (3, .int (nI i)), (4, .int (nI j))]) hx hb d_Mo_inFrame_182 hl (by decide) rfl (fun ls hl => ?_)
        refine lv_iload hx hb d_Mo_inFrame_184 (lv_at hl 4 rfl) ?_
        refine lv_bipush (v := (-10)) hx hb d_Mo_inFrame_186 (by decide) ?_
        refine lv_icmp_eq (tgt := 200) hx hb d_Mo_inFrame_188 rfl (fun h188 => ?_) (fun h188 => ?_)
        · skip
          refine lv_iload hx hb d_Mo_inFrame_200 (lv_at hl 3 rfl) ?_
          refine lv_bipush (v := nI 10) hx hb d_Mo_inFrame_202 (by decide) ?_
          refine lv_icmp_eq (tgt := 216) hx hb d_Mo_inFrame_204 rfl (fun h204 => ?_) (fun h204 => ?_)
          · skip
            refine lv_iconst (v := nI 1) hx hb d_Mo_inFrame_216 (by decide) ?_
            refine lv_goto (tgt := 221) hx hb d_Mo_inFrame_217 rfl ?_
            exact zk_zretR hx hb hr hlk hQ (by rw [hwg, hoj]; refine Eq.trans ?_ (congrArg zb (inF_v (u := fun z => mCol hl_ vl oj (li z)) (i := i) (j := j) (va := vl (9 * (li i) + oj)) (vb := vl (9 * (li j) + oj)) (congrArg (fun b => enc b (vl (9 * (li i) + oj))) h107) (congrArg (fun b => enc b (vl (9 * (li j) + oj))) h117)).symm); rw [h171]; first | (rw [if_pos rfl, ← neg_sub64]; first | exact zk_t ⟨Or.inl h188, Or.inl h204⟩ | exact zk_t ⟨Or.inl h188, Or.inr (Int64.not_lt.mp (fun q => h213 ((lg_cmp_gt _ _).mpr q)))⟩ | exact zk_t ⟨Or.inr (Int64.not_lt.mp (fun q => h197 ((lg_cmp_lt _ _).mpr q))), Or.inl h204⟩ | exact zk_t ⟨Or.inr (Int64.not_lt.mp (fun q => h197 ((lg_cmp_lt _ _).mpr q))), Or.inr (Int64.not_lt.mp (fun q => h213 ((lg_cmp_gt _ _).mpr q)))⟩ | exact zk_f (fun q => q.1.elim h188 (fun y => absurd ((lg_cmp_lt _ _).mp h197) (Int64.not_lt.mpr y))) | exact zk_f (fun q => q.2.elim h204 (fun y => absurd ((lg_cmp_gt _ _).mp h213) (Int64.not_lt.mpr y)))) | (rw [if_neg Bool.false_ne_true]; first | exact zk_t ⟨Or.inl h188, Or.inl h204⟩ | exact zk_t ⟨Or.inl h188, Or.inr (Int64.not_lt.mp (fun q => h213 ((lg_cmp_gt _ _).mpr q)))⟩ | exact zk_t ⟨Or.inr (Int64.not_lt.mp (fun q => h197 ((lg_cmp_lt _ _).mpr q))), Or.inl h204⟩ | exact zk_t ⟨Or.inr (Int64.not_lt.mp (fun q => h197 ((lg_cmp_lt _ _).mpr q))), Or.inr (Int64.not_lt.mp (fun q => h213 ((lg_cmp_gt _ _).mpr q)))⟩ | exact zk_f (fun q => q.1.elim h188 (fun y => absurd ((lg_cmp_lt _ _).mp h197) (Int64.not_lt.mpr y))) | exact zk_f (fun q => q.2.elim h204 (fun y => absurd ((lg_cmp_gt _ _).mp h213) (Int64.not_lt.mpr y))))) d_Mo_inFrame_221
          · skip
            refine lv_lload hx hb d_Mo_inFrame_207 (lv_at hl 0 rfl) ?_
            refine lv_iload hx hb d_Mo_inFrame_209 (lv_at hl 3 rfl) ?_
            refine lv_i2l (v := (wh w).toInt64) hx hb d_Mo_inFrame_211 (rfl) ?_
            refine W.lcmp hx hb d_Mo_inFrame_212 ?_
            refine lv_if_gt (tgt := 220) hx hb d_Mo_inFrame_213 rfl (fun h213 => ?_) (fun h213 => ?_)
            · skip
              refine lv_iconst (v := nI 0) hx hb d_Mo_inFrame_220 (by decide) ?_
              exact zk_zretR hx hb hr hlk hQ (by rw [hwg, hoj]; refine Eq.trans ?_ (congrArg zb (inF_v (u := fun z => mCol hl_ vl oj (li z)) (i := i) (j := j) (va := vl (9 * (li i) + oj)) (vb := vl (9 * (li j) + oj)) (congrArg (fun b => enc b (vl (9 * (li i) + oj))) h107) (congrArg (fun b => enc b (vl (9 * (li j) + oj))) h117)).symm); rw [h171]; first | (rw [if_pos rfl, ← neg_sub64]; first | exact zk_t ⟨Or.inl h188, Or.inl h204⟩ | exact zk_t ⟨Or.inl h188, Or.inr (Int64.not_lt.mp (fun q => h213 ((lg_cmp_gt _ _).mpr q)))⟩ | exact zk_t ⟨Or.inr (Int64.not_lt.mp (fun q => h197 ((lg_cmp_lt _ _).mpr q))), Or.inl h204⟩ | exact zk_t ⟨Or.inr (Int64.not_lt.mp (fun q => h197 ((lg_cmp_lt _ _).mpr q))), Or.inr (Int64.not_lt.mp (fun q => h213 ((lg_cmp_gt _ _).mpr q)))⟩ | exact zk_f (fun q => q.1.elim h188 (fun y => absurd ((lg_cmp_lt _ _).mp h197) (Int64.not_lt.mpr y))) | exact zk_f (fun q => q.2.elim h204 (fun y => absurd ((lg_cmp_gt _ _).mp h213) (Int64.not_lt.mpr y)))) | (rw [if_neg Bool.false_ne_true]; first | exact zk_t ⟨Or.inl h188, Or.inl h204⟩ | exact zk_t ⟨Or.inl h188, Or.inr (Int64.not_lt.mp (fun q => h213 ((lg_cmp_gt _ _).mpr q)))⟩ | exact zk_t ⟨Or.inr (Int64.not_lt.mp (fun q => h197 ((lg_cmp_lt _ _).mpr q))), Or.inl h204⟩ | exact zk_t ⟨Or.inr (Int64.not_lt.mp (fun q => h197 ((lg_cmp_lt _ _).mpr q))), Or.inr (Int64.not_lt.mp (fun q => h213 ((lg_cmp_gt _ _).mpr q)))⟩ | exact zk_f (fun q => q.1.elim h188 (fun y => absurd ((lg_cmp_lt _ _).mp h197) (Int64.not_lt.mpr y))) | exact zk_f (fun q => q.2.elim h204 (fun y => absurd ((lg_cmp_gt _ _).mp h213) (Int64.not_lt.mpr y))))) d_Mo_inFrame_221
            · skip
              refine lv_iconst (v := nI 1) hx hb d_Mo_inFrame_216 (by decide) ?_
              refine lv_goto (tgt := 221) hx hb d_Mo_inFrame_217 rfl ?_
              exact zk_zretR hx hb hr hlk hQ (by rw [hwg, hoj]; refine Eq.trans ?_ (congrArg zb (inF_v (u := fun z => mCol hl_ vl oj (li z)) (i := i) (j := j) (va := vl (9 * (li i) + oj)) (vb := vl (9 * (li j) + oj)) (congrArg (fun b => enc b (vl (9 * (li i) + oj))) h107) (congrArg (fun b => enc b (vl (9 * (li j) + oj))) h117)).symm); rw [h171]; first | (rw [if_pos rfl, ← neg_sub64]; first | exact zk_t ⟨Or.inl h188, Or.inl h204⟩ | exact zk_t ⟨Or.inl h188, Or.inr (Int64.not_lt.mp (fun q => h213 ((lg_cmp_gt _ _).mpr q)))⟩ | exact zk_t ⟨Or.inr (Int64.not_lt.mp (fun q => h197 ((lg_cmp_lt _ _).mpr q))), Or.inl h204⟩ | exact zk_t ⟨Or.inr (Int64.not_lt.mp (fun q => h197 ((lg_cmp_lt _ _).mpr q))), Or.inr (Int64.not_lt.mp (fun q => h213 ((lg_cmp_gt _ _).mpr q)))⟩ | exact zk_f (fun q => q.1.elim h188 (fun y => absurd ((lg_cmp_lt _ _).mp h197) (Int64.not_lt.mpr y))) | exact zk_f (fun q => q.2.elim h204 (fun y => absurd ((lg_cmp_gt _ _).mp h213) (Int64.not_lt.mpr y)))) | (rw [if_neg Bool.false_ne_true]; first | exact zk_t ⟨Or.inl h188, Or.inl h204⟩ | exact zk_t ⟨Or.inl h188, Or.inr (Int64.not_lt.mp (fun q => h213 ((lg_cmp_gt _ _).mpr q)))⟩ | exact zk_t ⟨Or.inr (Int64.not_lt.mp (fun q => h197 ((lg_cmp_lt _ _).mpr q))), Or.inl h204⟩ | exact zk_t ⟨Or.inr (Int64.not_lt.mp (fun q => h197 ((lg_cmp_lt _ _).mpr q))), Or.inr (Int64.not_lt.mp (fun q => h213 ((lg_cmp_gt _ _).mpr q)))⟩ | exact zk_f (fun q => q.1.elim h188 (fun y => absurd ((lg_cmp_lt _ _).mp h197) (Int64.not_lt.mpr y))) | exact zk_f (fun q => q.2.elim h204 (fun y => absurd ((lg_cmp_gt _ _).mp h213) (Int64.not_lt.mpr y))))) d_Mo_inFrame_221
        · skip
          refine lv_lload hx hb d_Mo_inFrame_191 (lv_at hl 0 rfl) ?_
          refine lv_iload hx hb d_Mo_inFrame_193 (lv_at hl 4 rfl) ?_
          refine lv_i2l (v := (wl w).toInt64) hx hb d_Mo_inFrame_195 (rfl) ?_
          refine W.lcmp hx hb d_Mo_inFrame_196 ?_
          refine lv_if_lt (tgt := 220) hx hb d_Mo_inFrame_197 rfl (fun h197 => ?_) (fun h197 => ?_)
          · skip
            refine lv_iconst (v := nI 0) hx hb d_Mo_inFrame_220 (by decide) ?_
            exact zk_zretR hx hb hr hlk hQ (by rw [hwg, hoj]; refine Eq.trans ?_ (congrArg zb (inF_v (u := fun z => mCol hl_ vl oj (li z)) (i := i) (j := j) (va := vl (9 * (li i) + oj)) (vb := vl (9 * (li j) + oj)) (congrArg (fun b => enc b (vl (9 * (li i) + oj))) h107) (congrArg (fun b => enc b (vl (9 * (li j) + oj))) h117)).symm); rw [h171]; first | (rw [if_pos rfl, ← neg_sub64]; first | exact zk_t ⟨Or.inl h188, Or.inl h204⟩ | exact zk_t ⟨Or.inl h188, Or.inr (Int64.not_lt.mp (fun q => h213 ((lg_cmp_gt _ _).mpr q)))⟩ | exact zk_t ⟨Or.inr (Int64.not_lt.mp (fun q => h197 ((lg_cmp_lt _ _).mpr q))), Or.inl h204⟩ | exact zk_t ⟨Or.inr (Int64.not_lt.mp (fun q => h197 ((lg_cmp_lt _ _).mpr q))), Or.inr (Int64.not_lt.mp (fun q => h213 ((lg_cmp_gt _ _).mpr q)))⟩ | exact zk_f (fun q => q.1.elim h188 (fun y => absurd ((lg_cmp_lt _ _).mp h197) (Int64.not_lt.mpr y))) | exact zk_f (fun q => q.2.elim h204 (fun y => absurd ((lg_cmp_gt _ _).mp h213) (Int64.not_lt.mpr y)))) | (rw [if_neg Bool.false_ne_true]; first | exact zk_t ⟨Or.inl h188, Or.inl h204⟩ | exact zk_t ⟨Or.inl h188, Or.inr (Int64.not_lt.mp (fun q => h213 ((lg_cmp_gt _ _).mpr q)))⟩ | exact zk_t ⟨Or.inr (Int64.not_lt.mp (fun q => h197 ((lg_cmp_lt _ _).mpr q))), Or.inl h204⟩ | exact zk_t ⟨Or.inr (Int64.not_lt.mp (fun q => h197 ((lg_cmp_lt _ _).mpr q))), Or.inr (Int64.not_lt.mp (fun q => h213 ((lg_cmp_gt _ _).mpr q)))⟩ | exact zk_f (fun q => q.1.elim h188 (fun y => absurd ((lg_cmp_lt _ _).mp h197) (Int64.not_lt.mpr y))) | exact zk_f (fun q => q.2.elim h204 (fun y => absurd ((lg_cmp_gt _ _).mp h213) (Int64.not_lt.mpr y))))) d_Mo_inFrame_221
          · skip
            refine lv_iload hx hb d_Mo_inFrame_200 (lv_at hl 3 rfl) ?_
            refine lv_bipush (v := nI 10) hx hb d_Mo_inFrame_202 (by decide) ?_
            refine lv_icmp_eq (tgt := 216) hx hb d_Mo_inFrame_204 rfl (fun h204 => ?_) (fun h204 => ?_)
            · skip
              refine lv_iconst (v := nI 1) hx hb d_Mo_inFrame_216 (by decide) ?_
              refine lv_goto (tgt := 221) hx hb d_Mo_inFrame_217 rfl ?_
              exact zk_zretR hx hb hr hlk hQ (by rw [hwg, hoj]; refine Eq.trans ?_ (congrArg zb (inF_v (u := fun z => mCol hl_ vl oj (li z)) (i := i) (j := j) (va := vl (9 * (li i) + oj)) (vb := vl (9 * (li j) + oj)) (congrArg (fun b => enc b (vl (9 * (li i) + oj))) h107) (congrArg (fun b => enc b (vl (9 * (li j) + oj))) h117)).symm); rw [h171]; first | (rw [if_pos rfl, ← neg_sub64]; first | exact zk_t ⟨Or.inl h188, Or.inl h204⟩ | exact zk_t ⟨Or.inl h188, Or.inr (Int64.not_lt.mp (fun q => h213 ((lg_cmp_gt _ _).mpr q)))⟩ | exact zk_t ⟨Or.inr (Int64.not_lt.mp (fun q => h197 ((lg_cmp_lt _ _).mpr q))), Or.inl h204⟩ | exact zk_t ⟨Or.inr (Int64.not_lt.mp (fun q => h197 ((lg_cmp_lt _ _).mpr q))), Or.inr (Int64.not_lt.mp (fun q => h213 ((lg_cmp_gt _ _).mpr q)))⟩ | exact zk_f (fun q => q.1.elim h188 (fun y => absurd ((lg_cmp_lt _ _).mp h197) (Int64.not_lt.mpr y))) | exact zk_f (fun q => q.2.elim h204 (fun y => absurd ((lg_cmp_gt _ _).mp h213) (Int64.not_lt.mpr y)))) | (rw [if_neg Bool.false_ne_true]; first | exact zk_t ⟨Or.inl h188, Or.inl h204⟩ | exact zk_t ⟨Or.inl h188, Or.inr (Int64.not_lt.mp (fun q => h213 ((lg_cmp_gt _ _).mpr q)))⟩ | exact zk_t ⟨Or.inr (Int64.not_lt.mp (fun q => h197 ((lg_cmp_lt _ _).mpr q))), Or.inl h204⟩ | exact zk_t ⟨Or.inr (Int64.not_lt.mp (fun q => h197 ((lg_cmp_lt _ _).mpr q))), Or.inr (Int64.not_lt.mp (fun q => h213 ((lg_cmp_gt _ _).mpr q)))⟩ | exact zk_f (fun q => q.1.elim h188 (fun y => absurd ((lg_cmp_lt _ _).mp h197) (Int64.not_lt.mpr y))) | exact zk_f (fun q => q.2.elim h204 (fun y => absurd ((lg_cmp_gt _ _).mp h213) (Int64.not_lt.mpr y))))) d_Mo_inFrame_221
            · skip
              refine lv_lload hx hb d_Mo_inFrame_207 (lv_at hl 0 rfl) ?_
              refine lv_iload hx hb d_Mo_inFrame_209 (lv_at hl 3 rfl) ?_
              refine lv_i2l (v := (wh w).toInt64) hx hb d_Mo_inFrame_211 (rfl) ?_
              refine W.lcmp hx hb d_Mo_inFrame_212 ?_
              refine lv_if_gt (tgt := 220) hx hb d_Mo_inFrame_213 rfl (fun h213 => ?_) (fun h213 => ?_)
              · skip
                refine lv_iconst (v := nI 0) hx hb d_Mo_inFrame_220 (by decide) ?_
                exact zk_zretR hx hb hr hlk hQ (by rw [hwg, hoj]; refine Eq.trans ?_ (congrArg zb (inF_v (u := fun z => mCol hl_ vl oj (li z)) (i := i) (j := j) (va := vl (9 * (li i) + oj)) (vb := vl (9 * (li j) + oj)) (congrArg (fun b => enc b (vl (9 * (li i) + oj))) h107) (congrArg (fun b => enc b (vl (9 * (li j) + oj))) h117)).symm); rw [h171]; first | (rw [if_pos rfl, ← neg_sub64]; first | exact zk_t ⟨Or.inl h188, Or.inl h204⟩ | exact zk_t ⟨Or.inl h188, Or.inr (Int64.not_lt.mp (fun q => h213 ((lg_cmp_gt _ _).mpr q)))⟩ | exact zk_t ⟨Or.inr (Int64.not_lt.mp (fun q => h197 ((lg_cmp_lt _ _).mpr q))), Or.inl h204⟩ | exact zk_t ⟨Or.inr (Int64.not_lt.mp (fun q => h197 ((lg_cmp_lt _ _).mpr q))), Or.inr (Int64.not_lt.mp (fun q => h213 ((lg_cmp_gt _ _).mpr q)))⟩ | exact zk_f (fun q => q.1.elim h188 (fun y => absurd ((lg_cmp_lt _ _).mp h197) (Int64.not_lt.mpr y))) | exact zk_f (fun q => q.2.elim h204 (fun y => absurd ((lg_cmp_gt _ _).mp h213) (Int64.not_lt.mpr y)))) | (rw [if_neg Bool.false_ne_true]; first | exact zk_t ⟨Or.inl h188, Or.inl h204⟩ | exact zk_t ⟨Or.inl h188, Or.inr (Int64.not_lt.mp (fun q => h213 ((lg_cmp_gt _ _).mpr q)))⟩ | exact zk_t ⟨Or.inr (Int64.not_lt.mp (fun q => h197 ((lg_cmp_lt _ _).mpr q))), Or.inl h204⟩ | exact zk_t ⟨Or.inr (Int64.not_lt.mp (fun q => h197 ((lg_cmp_lt _ _).mpr q))), Or.inr (Int64.not_lt.mp (fun q => h213 ((lg_cmp_gt _ _).mpr q)))⟩ | exact zk_f (fun q => q.1.elim h188 (fun y => absurd ((lg_cmp_lt _ _).mp h197) (Int64.not_lt.mpr y))) | exact zk_f (fun q => q.2.elim h204 (fun y => absurd ((lg_cmp_gt _ _).mp h213) (Int64.not_lt.mpr y))))) d_Mo_inFrame_221
              · skip
                refine lv_iconst (v := nI 1) hx hb d_Mo_inFrame_216 (by decide) ?_
                refine lv_goto (tgt := 221) hx hb d_Mo_inFrame_217 rfl ?_
                exact zk_zretR hx hb hr hlk hQ (by rw [hwg, hoj]; refine Eq.trans ?_ (congrArg zb (inF_v (u := fun z => mCol hl_ vl oj (li z)) (i := i) (j := j) (va := vl (9 * (li i) + oj)) (vb := vl (9 * (li j) + oj)) (congrArg (fun b => enc b (vl (9 * (li i) + oj))) h107) (congrArg (fun b => enc b (vl (9 * (li j) + oj))) h117)).symm); rw [h171]; first | (rw [if_pos rfl, ← neg_sub64]; first | exact zk_t ⟨Or.inl h188, Or.inl h204⟩ | exact zk_t ⟨Or.inl h188, Or.inr (Int64.not_lt.mp (fun q => h213 ((lg_cmp_gt _ _).mpr q)))⟩ | exact zk_t ⟨Or.inr (Int64.not_lt.mp (fun q => h197 ((lg_cmp_lt _ _).mpr q))), Or.inl h204⟩ | exact zk_t ⟨Or.inr (Int64.not_lt.mp (fun q => h197 ((lg_cmp_lt _ _).mpr q))), Or.inr (Int64.not_lt.mp (fun q => h213 ((lg_cmp_gt _ _).mpr q)))⟩ | exact zk_f (fun q => q.1.elim h188 (fun y => absurd ((lg_cmp_lt _ _).mp h197) (Int64.not_lt.mpr y))) | exact zk_f (fun q => q.2.elim h204 (fun y => absurd ((lg_cmp_gt _ _).mp h213) (Int64.not_lt.mpr y)))) | (rw [if_neg Bool.false_ne_true]; first | exact zk_t ⟨Or.inl h188, Or.inl h204⟩ | exact zk_t ⟨Or.inl h188, Or.inr (Int64.not_lt.mp (fun q => h213 ((lg_cmp_gt _ _).mpr q)))⟩ | exact zk_t ⟨Or.inr (Int64.not_lt.mp (fun q => h197 ((lg_cmp_lt _ _).mpr q))), Or.inl h204⟩ | exact zk_t ⟨Or.inr (Int64.not_lt.mp (fun q => h197 ((lg_cmp_lt _ _).mpr q))), Or.inr (Int64.not_lt.mp (fun q => h213 ((lg_cmp_gt _ _).mpr q)))⟩ | exact zk_f (fun q => q.1.elim h188 (fun y => absurd ((lg_cmp_lt _ _).mp h197) (Int64.not_lt.mpr y))) | exact zk_f (fun q => q.2.elim h204 (fun y => absurd ((lg_cmp_gt _ _).mp h213) (Int64.not_lt.mpr y))))) d_Mo_inFrame_221
    · skip
      refine lv_aload_n hx hb d_Mo_inFrame_120 rfl (lv_at hl 4 rfl) ?_
      refine va_get (C := R_Mo) (T := F_Mo) (N := 44) hx hb hts (fun w h => List.mem_cons_of_mem _ (hin_Mo w h)) hown hK hP 0 rfl rfl 26 (by decide) (hts _ (List.mem_cons_of_mem _ fl_Mo_56)) (fun _ h => h) rfl d_Mo_inFrame_121 ?_
      refine lv_iload hx hb d_Mo_inFrame_124 (lv_at hl 1 rfl) ?_
      refine zk_bald hx hb hK hP 8 2 rfl rfl (by omega) (by omega) d_Mo_inFrame_126 ?_
      refine zk_ifb_eq (tgt := 144) hx hb d_Mo_inFrame_127 rfl (fun h127 => ?_) (fun h127 => ?_)
      · skip
        refine lv_iconst (v := nI 0) hx hb d_Mo_inFrame_144 (by decide) ?_
        exact zk_zretR hx hb hr hlk hQ (by rw [hwg, hoj]; refine Eq.trans ?_ (congrArg zb (inF_h (u := fun z => mCol hl_ vl oj (li z)) (i := i) (j := j) (ha := hl_ (9 * (li i) + oj)) (hb := hl_ (9 * (li j) + oj)) rfl rfl (by first | exact Or.inl h107 | exact Or.inr h117)).symm); first | exact absurd (h107.symm.trans h127) (by decide) | (rw [h127, h137]; rfl) | (rw [h127]; rfl)) d_Mo_inFrame_145
      · skip
        refine lv_aload_n hx hb d_Mo_inFrame_130 rfl (lv_at hl 4 rfl) ?_
        refine va_get (C := R_Mo) (T := F_Mo) (N := 44) hx hb hts (fun w h => List.mem_cons_of_mem _ (hin_Mo w h)) hown hK hP 0 rfl rfl 26 (by decide) (hts _ (List.mem_cons_of_mem _ fl_Mo_56)) (fun _ h => h) rfl d_Mo_inFrame_131 ?_
        refine lv_iload hx hb d_Mo_inFrame_134 (lv_at hl 0 rfl) ?_
        refine zk_bald hx hb hK hP 8 2 rfl rfl (by omega) (by omega) d_Mo_inFrame_136 ?_
        refine zk_ifb_eq (tgt := 144) hx hb d_Mo_inFrame_137 rfl (fun h137 => ?_) (fun h137 => ?_)
        · skip
          refine lv_iconst (v := nI 0) hx hb d_Mo_inFrame_144 (by decide) ?_
          exact zk_zretR hx hb hr hlk hQ (by rw [hwg, hoj]; refine Eq.trans ?_ (congrArg zb (inF_h (u := fun z => mCol hl_ vl oj (li z)) (i := i) (j := j) (ha := hl_ (9 * (li i) + oj)) (hb := hl_ (9 * (li j) + oj)) rfl rfl (by first | exact Or.inl h107 | exact Or.inr h117)).symm); first | exact absurd (h107.symm.trans h127) (by decide) | (rw [h127, h137]; rfl) | (rw [h127]; rfl)) d_Mo_inFrame_145
        · skip
          refine lv_iconst (v := nI 1) hx hb d_Mo_inFrame_140 (by decide) ?_
          refine lv_goto (tgt := 145) hx hb d_Mo_inFrame_141 rfl ?_
          exact zk_zretR hx hb hr hlk hQ (by rw [hwg, hoj]; refine Eq.trans ?_ (congrArg zb (inF_h (u := fun z => mCol hl_ vl oj (li z)) (i := i) (j := j) (ha := hl_ (9 * (li i) + oj)) (hb := hl_ (9 * (li j) + oj)) rfl rfl (by first | exact Or.inl h107 | exact Or.inr h117)).symm); first | exact absurd (h107.symm.trans h127) (by decide) | (rw [h127, h137]; rfl) | (rw [h127]; rfl)) d_Mo_inFrame_145
theorem c_Mo_inFrame (l : Launch) (D : va_G) (cI cL cZ cW cR : ClassId) (o : Nat) (ϕ : Nat → Value) (a_wOrder a_wDown a_wRange a_wLow a_wHigh a_list a_value a_hole : Nat) (oo : Nat → Option Nat) (wd : Nat → Bool) (wg : Nat → Bool) (wl : Nat → Int32) (wh : Nat → Int32) (li : Nat → Nat) (vl : Nat → Int32) (hl_ : Nat → Bool) (w st i j : Nat) (hw : w < 3) (hi : i < 60) (hj : j < 60) (hli : ∀ z, z < 60 → li z < 60) (hwl : (-10 : Int32) ≤ wl w ∧ wl w ≤ nI 10) (hwh : (-10 : Int32) ≤ wh w ∧ wh w ≤ nI 10) (hwo : wg w = true → ∃ oj, oo w = some oj ∧ oj < 6) : Met l y_Mo_inFrame ws_Mo_inFrame rm0_0 (zPr D vwCl (zT cI cL cZ cW cR) [(o, .inr (9, [(ϕ 0), (ϕ 1), (ϕ 2), (ϕ 3), (ϕ 4), (ϕ 5), (ϕ 6), (ϕ 7), (ϕ 8), (ϕ 9), (ϕ 10), (ϕ 11), (ϕ 12), (ϕ 13), .ref a_wOrder, .ref a_wDown, .ref a_wRange, .ref a_wLow, .ref a_wHigh, (ϕ 19), (ϕ 20), (ϕ 21), (ϕ 22), (ϕ 23), (ϕ 24), .ref a_value, .ref a_hole, (ϕ 27), (ϕ 28), .ref a_list, (ϕ 30), (ϕ 31), (ϕ 32), (ϕ 33), (ϕ 34), (ϕ 35), (ϕ 36), (ϕ 37), (ϕ 38), (ϕ 39), (ϕ 40), (ϕ 41), (ϕ 42), (ϕ 43)])), (a_wOrder, .inl (cI, 3, .inl (zO oo))), (a_wDown, .inl (cZ, 3, .inl (zZ wd))), (a_wRange, .inl (cZ, 3, .inl (zZ wg))), (a_wLow, .inl (cI, 3, .inl wl)), (a_wHigh, .inl (cI, 3, .inl wh)), (a_list, .inl (cI, 60, .inl (zN li))), (a_value, .inl (cI, 540, .inl vl)), (a_hole, .inl (cZ, 540, .inl (zZ hl_)))] [.ref o, .int (nI w), .int (nI st), .int (nI i), .int (nI j)]) (zSi (zb (inF (mOl hl_ vl li (oo w)) (wd w) (wg w) (wl w) (wh w) i j))) 0 0 (fun _ => False) := by
  rcases Bool.eq_false_or_eq_true (wg w) with h | h
  · obtain ⟨oj, h1, h2⟩ := hwo h
    exact c_Mo_inFrame_t l D cI cL cZ cW cR o ϕ a_wOrder a_wDown a_wRange a_wLow a_wHigh a_list a_value a_hole oo wd wg wl wh li vl hl_ w st i j hw hi hj hli hwl hwh h oj h1 h2
  · exact c_Mo_inFrame_f l D cI cL cZ cW cR o ϕ a_wOrder a_wDown a_wRange a_wLow a_wHigh a_list a_value a_hole oo wd wg wl wh li vl hl_ w st i j hw hi hj hli hwl hwh h
set_option maxHeartbeats 4000000 in
set_option maxRecDepth 100000 in
theorem c_Mo_gather (l : Launch) (D : va_G) (cI cL cZ cW cR : ClassId) (sz : Nat) (o : Nat) (ϕ : Nat → Value) (a_wOrder a_wDown a_wRange a_wLow a_wHigh a_list a_value a_hole a_wArgument : Nat) (fc : Nat) (ff fl fe fg : Int32) (fs : Int64) (oo : Nat → Option Nat) (wd : Nat → Bool) (wg : Nat → Bool) (wl : Nat → Int32) (wh : Nat → Int32) (li : Nat → Nat) (vl : Nat → Int32) (hl_ : Nat → Bool) (wa : Nat → Nat) (w st en i : Nat) (hw : w < 3) (hst : st ≤ en) (hi : i < 60) (hen : en ≤ 60) (hwa : ∀ z, z < 3 → wa z < 6) (hli : ∀ z, z < 60 → li z < 60) (hwl : (-10 : Int32) ≤ wl w ∧ wl w ≤ nI 10) (hwh : (-10 : Int32) ≤ wh w ∧ wh w ≤ nI 10) (hwo : wg w = true → ∃ oj, oo w = some oj ∧ oj < 6) : Met l y_Mo_gather ws_Mo_gather rm1_40 (zPw D vwCl (zT cI cL cZ cW cR) [(o, .inr (9, [(ϕ 0), (ϕ 1), (ϕ 2), (ϕ 3), (ϕ 4), (ϕ 5), (ϕ 6), (ϕ 7), (ϕ 8), (ϕ 9), (ϕ 10), .ref a_wArgument, (ϕ 12), (ϕ 13), .ref a_wOrder, .ref a_wDown, .ref a_wRange, .ref a_wLow, .ref a_wHigh, (ϕ 19), (ϕ 20), (ϕ 21), (ϕ 22), (ϕ 23), (ϕ 24), .ref a_value, .ref a_hole, (ϕ 27), (ϕ 28), .ref a_list, (ϕ 30), (ϕ 31), (ϕ 32), (ϕ 33), (ϕ 34), (ϕ 35), (ϕ 36), (ϕ 37), .int ff, .int fl, .int (nI fc), .int fe, .int fg, .long fs])), (a_wOrder, .inl (cI, 3, .inl (zO oo))), (a_wDown, .inl (cZ, 3, .inl (zZ wd))), (a_wRange, .inl (cZ, 3, .inl (zZ wg))), (a_wLow, .inl (cI, 3, .inl wl)), (a_wHigh, .inl (cI, 3, .inl wh)), (a_list, .inl (cI, 60, .inl (zN li))), (a_value, .inl (cI, 540, .inl vl)), (a_hole, .inl (cZ, 540, .inl (zZ hl_))), (a_wArgument, .inl (cI, 3, .inl (zN wa)))] sz [.ref o, .int (nI w), .int (nI st), .int (nI en), .int (nI i)]) (zQv D vwCl (zT cI cL cZ cW cR) [(o, .inr (9, [(ϕ 0), (ϕ 1), (ϕ 2), (ϕ 3), (ϕ 4), (ϕ 5), (ϕ 6), (ϕ 7), (ϕ 8), (ϕ 9), (ϕ 10), .ref a_wArgument, (ϕ 12), (ϕ 13), .ref a_wOrder, .ref a_wDown, .ref a_wRange, .ref a_wLow, .ref a_wHigh, (ϕ 19), (ϕ 20), (ϕ 21), (ϕ 22), (ϕ 23), (ϕ 24), .ref a_value, .ref a_hole, (ϕ 27), (ϕ 28), .ref a_list, (ϕ 30), (ϕ 31), (ϕ 32), (ϕ 33), (ϕ 34), (ϕ 35), (ϕ 36), (ϕ 37), .int ff, .int fl, .int (nI fc), .int fe, .int fg, .long fs])), (a_wOrder, .inl (cI, 3, .inl (zO oo))), (a_wDown, .inl (cZ, 3, .inl (zZ wd))), (a_wRange, .inl (cZ, 3, .inl (zZ wg))), (a_wLow, .inl (cI, 3, .inl wl)), (a_wHigh, .inl (cI, 3, .inl wh)), (a_list, .inl (cI, 60, .inl (zN li))), (a_value, .inl (cI, 540, .inl vl)), (a_hole, .inl (cZ, 540, .inl (zZ hl_))), (a_wArgument, .inl (cI, 3, .inl (zN wa)))] sz (fun u : Option Nat × Option Nat × Nat × Int32 × Int32 × Int64 => GI (inF (mOl hl_ vl li (oo w)) (wd w) (wg w) (wl w) (wh w) i) (fun z => mCol hl_ vl (wa w) (li z)) st (en - st) u.1 u.2.1 u.2.2.1 u.2.2.2.1 u.2.2.2.2.1 u.2.2.2.2.2) (fun u => [(o, .inr (9, [(ϕ 0), (ϕ 1), (ϕ 2), (ϕ 3), (ϕ 4), (ϕ 5), (ϕ 6), (ϕ 7), (ϕ 8), (ϕ 9), (ϕ 10), .ref a_wArgument, (ϕ 12), (ϕ 13), .ref a_wOrder, .ref a_wDown, .ref a_wRange, .ref a_wLow, .ref a_wHigh, (ϕ 19), (ϕ 20), (ϕ 21), (ϕ 22), (ϕ 23), (ϕ 24), .ref a_value, .ref a_hole, (ϕ 27), (ϕ 28), .ref a_list, (ϕ 30), (ϕ 31), (ϕ 32), (ϕ 33), (ϕ 34), (ϕ 35), (ϕ 36), (ϕ 37), .int (oI u.1), .int (oI u.2.1), .int (nI u.2.2.1), .int u.2.2.2.1, .int u.2.2.2.2.1, .long u.2.2.2.2.2])), (a_wOrder, .inl (cI, 3, .inl (zO oo))), (a_wDown, .inl (cZ, 3, .inl (zZ wd))), (a_wRange, .inl (cZ, 3, .inl (zZ wg))), (a_wLow, .inl (cI, 3, .inl wl)), (a_wHigh, .inl (cI, 3, .inl wh)), (a_list, .inl (cI, 60, .inl (zN li))), (a_value, .inl (cI, 540, .inl vl)), (a_hole, .inl (cZ, 540, .inl (zZ hl_))), (a_wArgument, .inl (cI, 3, .inl (zN wa)))])) 0 0 (va_A [(o, .inr (9, [(ϕ 0), (ϕ 1), (ϕ 2), (ϕ 3), (ϕ 4), (ϕ 5), (ϕ 6), (ϕ 7), (ϕ 8), (ϕ 9), (ϕ 10), .ref a_wArgument, (ϕ 12), (ϕ 13), .ref a_wOrder, .ref a_wDown, .ref a_wRange, .ref a_wLow, .ref a_wHigh, (ϕ 19), (ϕ 20), (ϕ 21), (ϕ 22), (ϕ 23), (ϕ 24), .ref a_value, .ref a_hole, (ϕ 27), (ϕ 28), .ref a_list, (ϕ 30), (ϕ 31), (ϕ 32), (ϕ 33), (ϕ 34), (ϕ 35), (ϕ 36), (ϕ 37), .int ff, .int fl, .int (nI fc), .int fe, .int fg, .long fs])), (a_wOrder, .inl (cI, 3, .inl (zO oo))), (a_wDown, .inl (cZ, 3, .inl (zZ wd))), (a_wRange, .inl (cZ, 3, .inl (zZ wg))), (a_wLow, .inl (cI, 3, .inl wl)), (a_wHigh, .inl (cI, 3, .inl wh)), (a_list, .inl (cI, 60, .inl (zN li))), (a_value, .inl (cI, 540, .inl vl)), (a_hole, .inl (cZ, 540, .inl (zZ hl_))), (a_wArgument, .inl (cI, 3, .inl (zN wa)))] sz) := by
  refine zk_enterW (cc := b_Mo_gather) (maxL := 8) (ret := none) (by decide) rfl (Nat.le_of_ble_eq_true rfl) ?_
  intro p e s m args below meth c ls Q hx hb hml hr hlk hown hts hP hK hN hl hin hsz A hAe hA hD hS hQ
  subst hsz
  have hl : lv_has ls 8 [(0, .ref o), (1, .int (nI w)), (2, .int (nI st)), (3, .int (nI en)), (4, .int (nI i))] := hl
  refine lv_aload_n hx hb d_Mo_gather_0 rfl (lv_at hl 0 rfl) ?_
  refine lv_iconst (v := (-1)) hx hb d_Mo_gather_1 (by decide) ?_
  refine zk_topi (show ((-1)) = oI none from rfl) ?_
  refine va_put (D := D) (v := .int (oI none)) (ty := .int) (C := R_Mo) (T := F_Mo) (N := 44) hx hb hts (fun w h => List.mem_cons_of_mem _ (hin_Mo w h)) t_Mo t_Mo_ok n_Mo hown hK hP hD hS 0 rfl rfl 38 (by decide) (hts _ (List.mem_cons_of_mem _ fl_Mo_217)) (fun _ h => h) rfl (by decide +kernel) rfl rfl (Nat.le_of_ble_eq_true rfl) d_Mo_gather_2 (fun H locs hP hD hS => ?_)
  have hP : va_P D vwCl [(o, .inr (9, [(ϕ 0), (ϕ 1), (ϕ 2), (ϕ 3), (ϕ 4), (ϕ 5), (ϕ 6), (ϕ 7), (ϕ 8), (ϕ 9), (ϕ 10), .ref a_wArgument, (ϕ 12), (ϕ 13), .ref a_wOrder, .ref a_wDown, .ref a_wRange, .ref a_wLow, .ref a_wHigh, (ϕ 19), (ϕ 20), (ϕ 21), (ϕ 22), (ϕ 23), (ϕ 24), .ref a_value, .ref a_hole, (ϕ 27), (ϕ 28), .ref a_list, (ϕ 30), (ϕ 31), (ϕ 32), (ϕ 33), (ϕ 34), (ϕ 35), (ϕ 36), (ϕ 37), .int (oI none), .int fl, .int (nI fc), .int fe, .int fg, .long fs])), (a_wOrder, .inl (cI, 3, .inl (zO oo))), (a_wDown, .inl (cZ, 3, .inl (zZ wd))), (a_wRange, .inl (cZ, 3, .inl (zZ wg))), (a_wLow, .inl (cI, 3, .inl wl)), (a_wHigh, .inl (cI, 3, .inl wh)), (a_list, .inl (cI, 60, .inl (zN li))), (a_value, .inl (cI, 540, .inl vl)), (a_hole, .inl (cZ, 540, .inl (zZ hl_))), (a_wArgument, .inl (cI, 3, .inl (zN wa)))] H := hP
  have hD : va_D A [(o, .inr (9, [(ϕ 0), (ϕ 1), (ϕ 2), (ϕ 3), (ϕ 4), (ϕ 5), (ϕ 6), (ϕ 7), (ϕ 8), (ϕ 9), (ϕ 10), .ref a_wArgument, (ϕ 12), (ϕ 13), .ref a_wOrder, .ref a_wDown, .ref a_wRange, .ref a_wLow, .ref a_wHigh, (ϕ 19), (ϕ 20), (ϕ 21), (ϕ 22), (ϕ 23), (ϕ 24), .ref a_value, .ref a_hole, (ϕ 27), (ϕ 28), .ref a_list, (ϕ 30), (ϕ 31), (ϕ 32), (ϕ 33), (ϕ 34), (ϕ 35), (ϕ 36), (ϕ 37), .int (oI none), .int fl, .int (nI fc), .int fe, .int fg, .long fs])), (a_wOrder, .inl (cI, 3, .inl (zO oo))), (a_wDown, .inl (cZ, 3, .inl (zZ wd))), (a_wRange, .inl (cZ, 3, .inl (zZ wg))), (a_wLow, .inl (cI, 3, .inl wl)), (a_wHigh, .inl (cI, 3, .inl wh)), (a_list, .inl (cI, 60, .inl (zN li))), (a_value, .inl (cI, 540, .inl vl)), (a_hole, .inl (cZ, 540, .inl (zZ hl_))), (a_wArgument, .inl (cI, 3, .inl (zN wa)))] := hD
  refine lv_aload_n hx hb d_Mo_gather_5 rfl (lv_at hl 0 rfl) ?_
  refine lv_iconst (v := (-1)) hx hb d_Mo_gather_6 (by decide) ?_
  refine zk_topi (show ((-1)) = oI none from rfl) ?_
  refine va_put (D := D) (v := .int (oI none)) (ty := .int) (C := R_Mo) (T := F_Mo) (N := 44) hx hb hts (fun w h => List.mem_cons_of_mem _ (hin_Mo w h)) t_Mo t_Mo_ok n_Mo hown hK hP hD hS 0 rfl rfl 39 (by decide) (hts _ (List.mem_cons_of_mem _ fl_Mo_220)) (fun _ h => h) rfl (by decide +kernel) rfl rfl (Nat.le_of_ble_eq_true rfl) d_Mo_gather_7 (fun H locs hP hD hS => ?_)
  have hP : va_P D vwCl [(o, .inr (9, [(ϕ 0), (ϕ 1), (ϕ 2), (ϕ 3), (ϕ 4), (ϕ 5), (ϕ 6), (ϕ 7), (ϕ 8), (ϕ 9), (ϕ 10), .ref a_wArgument, (ϕ 12), (ϕ 13), .ref a_wOrder, .ref a_wDown, .ref a_wRange, .ref a_wLow, .ref a_wHigh, (ϕ 19), (ϕ 20), (ϕ 21), (ϕ 22), (ϕ 23), (ϕ 24), .ref a_value, .ref a_hole, (ϕ 27), (ϕ 28), .ref a_list, (ϕ 30), (ϕ 31), (ϕ 32), (ϕ 33), (ϕ 34), (ϕ 35), (ϕ 36), (ϕ 37), .int (oI none), .int (oI none), .int (nI fc), .int fe, .int fg, .long fs])), (a_wOrder, .inl (cI, 3, .inl (zO oo))), (a_wDown, .inl (cZ, 3, .inl (zZ wd))), (a_wRange, .inl (cZ, 3, .inl (zZ wg))), (a_wLow, .inl (cI, 3, .inl wl)), (a_wHigh, .inl (cI, 3, .inl wh)), (a_list, .inl (cI, 60, .inl (zN li))), (a_value, .inl (cI, 540, .inl vl)), (a_hole, .inl (cZ, 540, .inl (zZ hl_))), (a_wArgument, .inl (cI, 3, .inl (zN wa)))] H := hP
  have hD : va_D A [(o, .inr (9, [(ϕ 0), (ϕ 1), (ϕ 2), (ϕ 3), (ϕ 4), (ϕ 5), (ϕ 6), (ϕ 7), (ϕ 8), (ϕ 9), (ϕ 10), .ref a_wArgument, (ϕ 12), (ϕ 13), .ref a_wOrder, .ref a_wDown, .ref a_wRange, .ref a_wLow, .ref a_wHigh, (ϕ 19), (ϕ 20), (ϕ 21), (ϕ 22), (ϕ 23), (ϕ 24), .ref a_value, .ref a_hole, (ϕ 27), (ϕ 28), .ref a_list, (ϕ 30), (ϕ 31), (ϕ 32), (ϕ 33), (ϕ 34), (ϕ 35), (ϕ 36), (ϕ 37), .int (oI none), .int (oI none), .int (nI fc), .int fe, .int fg, .long fs])), (a_wOrder, .inl (cI, 3, .inl (zO oo))), (a_wDown, .inl (cZ, 3, .inl (zZ wd))), (a_wRange, .inl (cZ, 3, .inl (zZ wg))), (a_wLow, .inl (cI, 3, .inl wl)), (a_wHigh, .inl (cI, 3, .inl wh)), (a_list, .inl (cI, 60, .inl (zN li))), (a_value, .inl (cI, 540, .inl vl)), (a_hole, .inl (cZ, 540, .inl (zZ hl_))), (a_wArgument, .inl (cI, 3, .inl (zN wa)))] := hD
  refine lv_aload_n hx hb d_Mo_gather_10 rfl (lv_at hl 0 rfl) ?_
  refine lv_iconst (v := nI 0) hx hb d_Mo_gather_11 (by decide) ?_
  refine va_put (D := D) (v := .int (nI 0)) (ty := .int) (C := R_Mo) (T := F_Mo) (N := 44) hx hb hts (fun w h => List.mem_cons_of_mem _ (hin_Mo w h)) t_Mo t_Mo_ok n_Mo hown hK hP hD hS 0 rfl rfl 40 (by decide) (hts _ (List.mem_cons_of_mem _ fl_Mo_223)) (fun _ h => h) rfl (by decide +kernel) rfl rfl (Nat.le_of_ble_eq_true rfl) d_Mo_gather_12 (fun H locs hP hD hS => ?_)
  have hP : va_P D vwCl [(o, .inr (9, [(ϕ 0), (ϕ 1), (ϕ 2), (ϕ 3), (ϕ 4), (ϕ 5), (ϕ 6), (ϕ 7), (ϕ 8), (ϕ 9), (ϕ 10), .ref a_wArgument, (ϕ 12), (ϕ 13), .ref a_wOrder, .ref a_wDown, .ref a_wRange, .ref a_wLow, .ref a_wHigh, (ϕ 19), (ϕ 20), (ϕ 21), (ϕ 22), (ϕ 23), (ϕ 24), .ref a_value, .ref a_hole, (ϕ 27), (ϕ 28), .ref a_list, (ϕ 30), (ϕ 31), (ϕ 32), (ϕ 33), (ϕ 34), (ϕ 35), (ϕ 36), (ϕ 37), .int (oI none), .int (oI none), .int (nI 0), .int fe, .int fg, .long fs])), (a_wOrder, .inl (cI, 3, .inl (zO oo))), (a_wDown, .inl (cZ, 3, .inl (zZ wd))), (a_wRange, .inl (cZ, 3, .inl (zZ wg))), (a_wLow, .inl (cI, 3, .inl wl)), (a_wHigh, .inl (cI, 3, .inl wh)), (a_list, .inl (cI, 60, .inl (zN li))), (a_value, .inl (cI, 540, .inl vl)), (a_hole, .inl (cZ, 540, .inl (zZ hl_))), (a_wArgument, .inl (cI, 3, .inl (zN wa)))] H := hP
  have hD : va_D A [(o, .inr (9, [(ϕ 0), (ϕ 1), (ϕ 2), (ϕ 3), (ϕ 4), (ϕ 5), (ϕ 6), (ϕ 7), (ϕ 8), (ϕ 9), (ϕ 10), .ref a_wArgument, (ϕ 12), (ϕ 13), .ref a_wOrder, .ref a_wDown, .ref a_wRange, .ref a_wLow, .ref a_wHigh, (ϕ 19), (ϕ 20), (ϕ 21), (ϕ 22), (ϕ 23), (ϕ 24), .ref a_value, .ref a_hole, (ϕ 27), (ϕ 28), .ref a_list, (ϕ 30), (ϕ 31), (ϕ 32), (ϕ 33), (ϕ 34), (ϕ 35), (ϕ 36), (ϕ 37), .int (oI none), .int (oI none), .int (nI 0), .int fe, .int fg, .long fs])), (a_wOrder, .inl (cI, 3, .inl (zO oo))), (a_wDown, .inl (cZ, 3, .inl (zZ wd))), (a_wRange, .inl (cZ, 3, .inl (zZ wg))), (a_wLow, .inl (cI, 3, .inl wl)), (a_wHigh, .inl (cI, 3, .inl wh)), (a_list, .inl (cI, 60, .inl (zN li))), (a_value, .inl (cI, 540, .inl vl)), (a_hole, .inl (cZ, 540, .inl (zZ hl_))), (a_wArgument, .inl (cI, 3, .inl (zN wa)))] := hD
  refine lv_aload_n hx hb d_Mo_gather_15 rfl (lv_at hl 0 rfl) ?_
  refine lv_lconst (v := 0) hx hb d_Mo_gather_16 (by decide) ?_
  refine va_put (D := D) (v := .long 0) (ty := .long) (C := R_Mo) (T := F_Mo) (N := 44) hx hb hts (fun w h => List.mem_cons_of_mem _ (hin_Mo w h)) t_Mo t_Mo_ok n_Mo hown hK hP hD hS 0 rfl rfl 43 (by decide) (hts _ (List.mem_cons_of_mem _ fl_Mo_226)) (fun _ h => h) rfl (by decide +kernel) rfl rfl (Nat.le_of_ble_eq_true rfl) d_Mo_gather_17 (fun H locs hP hD hS => ?_)
  have hP : va_P D vwCl [(o, .inr (9, [(ϕ 0), (ϕ 1), (ϕ 2), (ϕ 3), (ϕ 4), (ϕ 5), (ϕ 6), (ϕ 7), (ϕ 8), (ϕ 9), (ϕ 10), .ref a_wArgument, (ϕ 12), (ϕ 13), .ref a_wOrder, .ref a_wDown, .ref a_wRange, .ref a_wLow, .ref a_wHigh, (ϕ 19), (ϕ 20), (ϕ 21), (ϕ 22), (ϕ 23), (ϕ 24), .ref a_value, .ref a_hole, (ϕ 27), (ϕ 28), .ref a_list, (ϕ 30), (ϕ 31), (ϕ 32), (ϕ 33), (ϕ 34), (ϕ 35), (ϕ 36), (ϕ 37), .int (oI none), .int (oI none), .int (nI 0), .int fe, .int fg, .long 0])), (a_wOrder, .inl (cI, 3, .inl (zO oo))), (a_wDown, .inl (cZ, 3, .inl (zZ wd))), (a_wRange, .inl (cZ, 3, .inl (zZ wg))), (a_wLow, .inl (cI, 3, .inl wl)), (a_wHigh, .inl (cI, 3, .inl wh)), (a_list, .inl (cI, 60, .inl (zN li))), (a_value, .inl (cI, 540, .inl vl)), (a_hole, .inl (cZ, 540, .inl (zZ hl_))), (a_wArgument, .inl (cI, 3, .inl (zN wa)))] H := hP
  have hD : va_D A [(o, .inr (9, [(ϕ 0), (ϕ 1), (ϕ 2), (ϕ 3), (ϕ 4), (ϕ 5), (ϕ 6), (ϕ 7), (ϕ 8), (ϕ 9), (ϕ 10), .ref a_wArgument, (ϕ 12), (ϕ 13), .ref a_wOrder, .ref a_wDown, .ref a_wRange, .ref a_wLow, .ref a_wHigh, (ϕ 19), (ϕ 20), (ϕ 21), (ϕ 22), (ϕ 23), (ϕ 24), .ref a_value, .ref a_hole, (ϕ 27), (ϕ 28), .ref a_list, (ϕ 30), (ϕ 31), (ϕ 32), (ϕ 33), (ϕ 34), (ϕ 35), (ϕ 36), (ϕ 37), .int (oI none), .int (oI none), .int (nI 0), .int fe, .int fg, .long 0])), (a_wOrder, .inl (cI, 3, .inl (zO oo))), (a_wDown, .inl (cZ, 3, .inl (zZ wd))), (a_wRange, .inl (cZ, 3, .inl (zZ wg))), (a_wLow, .inl (cI, 3, .inl wl)), (a_wHigh, .inl (cI, 3, .inl wh)), (a_list, .inl (cI, 60, .inl (zN li))), (a_value, .inl (cI, 540, .inl vl)), (a_hole, .inl (cZ, 540, .inl (zZ hl_))), (a_wArgument, .inl (cI, 3, .inl (zN wa)))] := hD
  refine lv_iload_n hx hb d_Mo_gather_20 rfl (lv_at hl 2 rfl) ?_
  refine lv_istore (lv' := [(5, .int (nI st)), (0, .ref o), (1, .int (nI w)), (2, .int (nI st)), (3, .int (nI en)), (4, .int (nI i))]) hx hb d_Mo_gather_21 hl (by decide) rfl (fun ls hl => ?_)
  have lb23 : ∀ (fuel23 : Nat) (d : Nat) (f1 : Option Nat) (l1 : Option Nat) (c1 : Nat) (e1 : Int32) (g1 : Int32) (s1 : Int64), (st + d ≤ en) → (GI (inF (mOl hl_ vl li (oo w)) (wd w) (wg w) (wl w) (wh w) i) (fun z => mCol hl_ vl (wa w) (li z)) st d f1 l1 c1 e1 g1 s1) → en - (st + d) < fuel23 → ∀ (ls : Array Slot) (H : Heap) (locs : List Loc), lv_has ls 8 [(0, .ref o), (1, .int (nI w)), (2, .int (nI st)), (3, .int (nI en)), (4, .int (nI i)), (5, .int (nI (st + d)))] → va_P D vwCl [(o, .inr (9, [(ϕ 0), (ϕ 1), (ϕ 2), (ϕ 3), (ϕ 4), (ϕ 5), (ϕ 6), (ϕ 7), (ϕ 8), (ϕ 9), (ϕ 10), .ref a_wArgument, (ϕ 12), (ϕ 13), .ref a_wOrder, .ref a_wDown, .ref a_wRange, .ref a_wLow, .ref a_wHigh, (ϕ 19), (ϕ 20), (ϕ 21), (ϕ 22), (ϕ 23), (ϕ 24), .ref a_value, .ref a_hole, (ϕ 27), (ϕ 28), .ref a_list, (ϕ 30), (ϕ 31), (ϕ 32), (ϕ 33), (ϕ 34), (ϕ 35), (ϕ 36), (ϕ 37), .int (oI f1), .int (oI l1), .int (nI c1), .int e1, .int g1, .long s1])), (a_wOrder, .inl (cI, 3, .inl (zO oo))), (a_wDown, .inl (cZ, 3, .inl (zZ wd))), (a_wRange, .inl (cZ, 3, .inl (zZ wg))), (a_wLow, .inl (cI, 3, .inl wl)), (a_wHigh, .inl (cI, 3, .inl wh)), (a_list, .inl (cI, 60, .inl (zN li))), (a_value, .inl (cI, 540, .inl vl)), (a_hole, .inl (cZ, 540, .inl (zZ hl_))), (a_wArgument, .inl (cI, 3, .inl (zN wa)))] H → va_D A [(o, .inr (9, [(ϕ 0), (ϕ 1), (ϕ 2), (ϕ 3), (ϕ 4), (ϕ 5), (ϕ 6), (ϕ 7), (ϕ 8), (ϕ 9), (ϕ 10), .ref a_wArgument, (ϕ 12), (ϕ 13), .ref a_wOrder, .ref a_wDown, .ref a_wRange, .ref a_wLow, .ref a_wHigh, (ϕ 19), (ϕ 20), (ϕ 21), (ϕ 22), (ϕ 23), (ϕ 24), .ref a_value, .ref a_hole, (ϕ 27), (ϕ 28), .ref a_list, (ϕ 30), (ϕ 31), (ϕ 32), (ϕ 33), (ϕ 34), (ϕ 35), (ϕ 36), (ϕ 37), .int (oI f1), .int (oI l1), .int (nI c1), .int e1, .int g1, .long s1])), (a_wOrder, .inl (cI, 3, .inl (zO oo))), (a_wDown, .inl (cZ, 3, .inl (zZ wd))), (a_wRange, .inl (cZ, 3, .inl (zZ wg))), (a_wLow, .inl (cI, 3, .inl wl)), (a_wHigh, .inl (cI, 3, .inl wh)), (a_list, .inl (cI, 60, .inl (zN li))), (a_value, .inl (cI, 540, .inl vl)), (a_hole, .inl (cZ, 540, .inl (zZ hl_))), (a_wArgument, .inl (cI, 3, .inl (zN wa)))] → va_S A s.heap H locs → W p l e rm1_40 s m args below meth c H locs 0 0 Q (F0 m 23 ls []) := by
    intro fuel23
    induction fuel23 with
    | zero => intro d f1 l1 c1 e1 g1 s1 hd hI hfu23; exact absurd hfu23 (Nat.not_lt_zero _)
    | succ fuel23 ih23 =>
      intro d f1 l1 c1 e1 g1 s1 hd hI hfu23 ls H locs hl hP hD hS
      refine lv_iload hx hb d_Mo_gather_23 (lv_at hl 5 rfl) ?_
      refine lv_iload_n hx hb d_Mo_gather_25 rfl (lv_at hl 3 rfl) ?_
      refine zk_icmp_ge (tgt := 192) hx hb d_Mo_gather_26 rfl (by omega) (by omega) (fun h26 => ?_) (fun h26 => ?_)
      · skip
        have hd9 : d = en - st := by omega
        rw [hd9] at hI
        exact zk_vretW hx hb hr hlk hAe hQ hK ((f1, l1, c1, e1, g1, s1)) (hI) hP hD hS d_Mo_gather_192
      · skip
        have hcl := gCnt_le (P := (inF (mOl hl_ vl li (oo w)) (wd w) (wg w) (wl w) (wh w) i)) (u := (fun z => mCol hl_ vl (wa w) (li z))) (st := st) d
        rw [← hI.2.2.1] at hcl
        refine lv_aload_n hx hb d_Mo_gather_29 rfl (lv_at hl 0 rfl) ?_
        refine lv_iload_n hx hb d_Mo_gather_30 rfl (lv_at hl 1 rfl) ?_
        refine lv_iload_n hx hb d_Mo_gather_31 rfl (lv_at hl 2 rfl) ?_
        refine lv_iload hx hb d_Mo_gather_32 (lv_at hl 4 rfl) ?_
        refine lv_iload hx hb d_Mo_gather_34 (lv_at hl 5 rfl) ?_
        have hPc := hP.sub (ws' := [(o, .inr (9, [(ϕ 0), (ϕ 1), (ϕ 2), (ϕ 3), (ϕ 4), (ϕ 5), (ϕ 6), (ϕ 7), (ϕ 8), (ϕ 9), (ϕ 10), .ref a_wArgument, (ϕ 12), (ϕ 13), .ref a_wOrder, .ref a_wDown, .ref a_wRange, .ref a_wLow, .ref a_wHigh, (ϕ 19), (ϕ 20), (ϕ 21), (ϕ 22), (ϕ 23), (ϕ 24), .ref a_value, .ref a_hole, (ϕ 27), (ϕ 28), .ref a_list, (ϕ 30), (ϕ 31), (ϕ 32), (ϕ 33), (ϕ 34), (ϕ 35), (ϕ 36), (ϕ 37), .int (oI f1), .int (oI l1), .int (nI c1), .int e1, .int g1, .long s1])), (a_wOrder, .inl (cI, 3, .inl (zO oo))), (a_wDown, .inl (cZ, 3, .inl (zZ wd))), (a_wRange, .inl (cZ, 3, .inl (zZ wg))), (a_wLow, .inl (cI, 3, .inl wl)), (a_wHigh, .inl (cI, 3, .inl wh)), (a_list, .inl (cI, 60, .inl (zN li))), (a_value, .inl (cI, 540, .inl vl)), (a_hole, .inl (cZ, 540, .inl (zZ hl_)))]) [0, 1, 2, 3, 4, 5, 6, 7, 8] rfl
        refine zk_ri (va_runV (As := [.int (nI w), .int (nI st), .int (nI i), .int (nI (st + d))]) (rest := []) ⟨hx, hb, hml, hown, hts⟩ (c_Mo_inFrame l D cI cL cZ cW cR o (vp_V [(ϕ 0), (ϕ 1), (ϕ 2), (ϕ 3), (ϕ 4), (ϕ 5), (ϕ 6), (ϕ 7), (ϕ 8), (ϕ 9), (ϕ 10), .ref a_wArgument, (ϕ 12), (ϕ 13), .ref a_wOrder, .ref a_wDown, .ref a_wRange, .ref a_wLow, .ref a_wHigh, (ϕ 19), (ϕ 20), (ϕ 21), (ϕ 22), (ϕ 23), (ϕ 24), .ref a_value, .ref a_hole, (ϕ 27), (ϕ 28), .ref a_list, (ϕ 30), (ϕ 31), (ϕ 32), (ϕ 33), (ϕ 34), (ϕ 35), (ϕ 36), (ϕ 37), .int (oI f1), .int (oI l1), .int (nI c1), .int e1, .int g1, .long s1]) a_wOrder a_wDown a_wRange a_wLow a_wHigh a_list a_value a_hole oo wd wg wl wh li vl hl_ w st i (st + d) hw hi (by omega) hli hwl hwh hwo) (cwV 4 hts (zk_gV (fun _ h => List.mem_cons_of_mem _ h) ml_Mo_230 im_Mo_inFrame se_Mo_inFrame in_Mo co_Mo_inFrame) rfl rfl rfl ⟨rfl, hd_Mo_inFrame⟩ ⟨Nat.le_of_ble_eq_true rfl, Nat.le_of_ble_eq_true rfl⟩) (zk_vr (q0 := 0) hN hK hPc rfl rfl) rfl rfl hl.1 rfl (lv_room (Nat.le_of_ble_eq_true rfl)) d_Mo_gather_36 ⟨Nat.zero_le _, Nat.zero_le _⟩) ?_
        refine zk_ifb_eq (tgt := 186) hx hb d_Mo_gather_39 rfl (fun h39 => ?_) (fun h39 => ?_)
        · skip
          have hz := gi_no hI h39
          refine lv_iinc (k := 5) (v := nI (st + d + 1)) (lv' := [(5, .int (nI (st + d + 1))), (0, .ref o), (1, .int (nI w)), (2, .int (nI st)), (3, .int (nI en)), (4, .int (nI i))]) hx hb d_Mo_gather_186 hl rfl (nI_add (st + d) 1) (by decide) rfl (fun ls hl => ?_)
          refine lv_goto (tgt := 23) hx hb d_Mo_gather_189 rfl ?_
          exact ih23 (d + 1) f1 l1 c1 e1 g1 s1 (by omega) hz (by omega) ls _ _ (lv_sub hl [1, 2, 3, 4, 5, 0] rfl) hP hD hS
        · skip
          have hl9 := hli (st + d) (by omega)
          have hwa0 := hwa w hw
          refine lv_bipush (v := nI 9) hx hb d_Mo_gather_42 (by decide) ?_
          refine lv_aload_n hx hb d_Mo_gather_44 rfl (lv_at hl 0 rfl) ?_
          refine va_get (C := R_Mo) (T := F_Mo) (N := 44) hx hb hts (fun w h => List.mem_cons_of_mem _ (hin_Mo w h)) hown hK hP 0 rfl rfl 29 (by decide) (hts _ (List.mem_cons_of_mem _ fl_Mo_65)) (fun _ h => h) rfl d_Mo_gather_45 ?_
          refine lv_iload hx hb d_Mo_gather_48 (lv_at hl 5 rfl) ?_
          refine zk_nald hx hb hK hP 6 0 rfl rfl (by omega) (by omega) d_Mo_gather_50 ?_
          refine lv_imul hx hb d_Mo_gather_51 ?_
          refine zk_topi (show ((nI 9) * (nI (li (st + d)))) = nI (9 * (li (st + d))) from pk_mul 9 (li (st + d))) ?_
          refine lv_aload_n hx hb d_Mo_gather_52 rfl (lv_at hl 0 rfl) ?_
          refine va_get (C := R_Mo) (T := F_Mo) (N := 44) hx hb hts (fun w h => List.mem_cons_of_mem _ (hin_Mo w h)) hown hK hP 0 rfl rfl 11 (by decide) (hts _ (List.mem_cons_of_mem _ fl_Mo_25)) (fun _ h => h) rfl d_Mo_gather_53 ?_
          refine lv_iload_n hx hb d_Mo_gather_56 rfl (lv_at hl 1 rfl) ?_
          refine zk_nald hx hb hK hP 9 0 rfl rfl (by omega) (by omega) d_Mo_gather_57 ?_
          refine lv_iadd hx hb d_Mo_gather_58 ?_
          refine zk_topi (show ((nI (9 * (li (st + d)))) + (nI (wa w))) = nI (9 * (li (st + d)) + (wa w)) from nI_add (9 * (li (st + d))) (wa w)) ?_
          refine lv_istore (lv' := [(6, .int (nI (9 * (li (st + d)) + (wa w)))), (0, .ref o), (1, .int (nI w)), (2, .int (nI st)), (3, .int (nI en)), (4, .int (nI i)), (5, .int (nI (st + d)))]) hx hb d_Mo_gather_59 hl (by decide) rfl (fun ls hl => ?_)
          refine lv_aload_n hx hb d_Mo_gather_61 rfl (lv_at hl 1 rfl) ?_
          refine va_get (C := R_Mo) (T := F_Mo) (N := 44) hx hb hts (fun w h => List.mem_cons_of_mem _ (hin_Mo w h)) hown hK hP 0 rfl rfl 25 (by decide) (hts _ (List.mem_cons_of_mem _ fl_Mo_53)) (fun _ h => h) rfl d_Mo_gather_62 ?_
          refine lv_iload hx hb d_Mo_gather_65 (lv_at hl 0 rfl) ?_
          refine zk_iald hx hb hK hP 7 0 rfl rfl (by omega) (by omega) d_Mo_gather_67 ?_
          refine lv_istore (lv' := [(7, .int (vl (9 * (li (st + d)) + (wa w)))), (6, .int (nI (9 * (li (st + d)) + (wa w)))), (0, .ref o), (1, .int (nI w)), (2, .int (nI st)), (3, .int (nI en)), (4, .int (nI i)), (5, .int (nI (st + d)))]) hx hb d_Mo_gather_68 hl (by decide) rfl (fun ls hl => ?_)
          refine lv_aload_n hx hb d_Mo_gather_70 rfl (lv_at hl 2 rfl) ?_
          refine lv_aload_n hx hb d_Mo_gather_71 rfl (lv_at hl 2 rfl) ?_
          refine va_get (C := R_Mo) (T := F_Mo) (N := 44) hx hb hts (fun w h => List.mem_cons_of_mem _ (hin_Mo w h)) hown hK hP 0 rfl rfl 38 (by decide) (hts _ (List.mem_cons_of_mem _ fl_Mo_217)) (fun _ h => h) rfl d_Mo_gather_72 ?_
          have lb90 : ∀  (f2 : Option Nat), (f2 = gFst (inF (mOl hl_ vl li (oo w)) (wd w) (wg w) (wl w) (wh w) i) st (d + 1)) → ∀ (ls : Array Slot) (H : Heap) (locs : List Loc), lv_has ls 8 [(0, .ref o), (1, .int (nI w)), (2, .int (nI st)), (3, .int (nI en)), (4, .int (nI i)), (5, .int (nI (st + d))), (6, .int (nI (9 * (li (st + d)) + (wa w)))), (7, .int (vl (9 * (li (st + d)) + (wa w))))] → va_P D vwCl [(o, .inr (9, [(ϕ 0), (ϕ 1), (ϕ 2), (ϕ 3), (ϕ 4), (ϕ 5), (ϕ 6), (ϕ 7), (ϕ 8), (ϕ 9), (ϕ 10), .ref a_wArgument, (ϕ 12), (ϕ 13), .ref a_wOrder, .ref a_wDown, .ref a_wRange, .ref a_wLow, .ref a_wHigh, (ϕ 19), (ϕ 20), (ϕ 21), (ϕ 22), (ϕ 23), (ϕ 24), .ref a_value, .ref a_hole, (ϕ 27), (ϕ 28), .ref a_list, (ϕ 30), (ϕ 31), (ϕ 32), (ϕ 33), (ϕ 34), (ϕ 35), (ϕ 36), (ϕ 37), .int (oI f2), .int (oI l1), .int (nI c1), .int e1, .int g1, .long s1])), (a_wOrder, .inl (cI, 3, .inl (zO oo))), (a_wDown, .inl (cZ, 3, .inl (zZ wd))), (a_wRange, .inl (cZ, 3, .inl (zZ wg))), (a_wLow, .inl (cI, 3, .inl wl)), (a_wHigh, .inl (cI, 3, .inl wh)), (a_list, .inl (cI, 60, .inl (zN li))), (a_value, .inl (cI, 540, .inl vl)), (a_hole, .inl (cZ, 540, .inl (zZ hl_))), (a_wArgument, .inl (cI, 3, .inl (zN wa)))] H → va_D A [(o, .inr (9, [(ϕ 0), (ϕ 1), (ϕ 2), (ϕ 3), (ϕ 4), (ϕ 5), (ϕ 6), (ϕ 7), (ϕ 8), (ϕ 9), (ϕ 10), .ref a_wArgument, (ϕ 12), (ϕ 13), .ref a_wOrder, .ref a_wDown, .ref a_wRange, .ref a_wLow, .ref a_wHigh, (ϕ 19), (ϕ 20), (ϕ 21), (ϕ 22), (ϕ 23), (ϕ 24), .ref a_value, .ref a_hole, (ϕ 27), (ϕ 28), .ref a_list, (ϕ 30), (ϕ 31), (ϕ 32), (ϕ 33), (ϕ 34), (ϕ 35), (ϕ 36), (ϕ 37), .int (oI f2), .int (oI l1), .int (nI c1), .int e1, .int g1, .long s1])), (a_wOrder, .inl (cI, 3, .inl (zO oo))), (a_wDown, .inl (cZ, 3, .inl (zZ wd))), (a_wRange, .inl (cZ, 3, .inl (zZ wg))), (a_wLow, .inl (cI, 3, .inl wl)), (a_wHigh, .inl (cI, 3, .inl wh)), (a_list, .inl (cI, 60, .inl (zN li))), (a_value, .inl (cI, 540, .inl vl)), (a_hole, .inl (cZ, 540, .inl (zZ hl_))), (a_wArgument, .inl (cI, 3, .inl (zN wa)))] → va_S A s.heap H locs → W p l e rm1_40 s m args below meth c H locs 0 0 Q (F0 m 90 ls []) := by
            intro f2 hf2 ls H locs hl hP hD hS
            refine lv_aload_n hx hb d_Mo_gather_90 rfl (lv_at hl 0 rfl) ?_
            refine lv_iload hx hb d_Mo_gather_91 (lv_at hl 5 rfl) ?_
            refine zk_topi (show (nI (st + d)) = oI (some (st + d)) from rfl) ?_
            refine va_put (D := D) (v := .int (oI (some (st + d)))) (ty := .int) (C := R_Mo) (T := F_Mo) (N := 44) hx hb hts (fun w h => List.mem_cons_of_mem _ (hin_Mo w h)) t_Mo t_Mo_ok n_Mo hown hK hP hD hS 0 rfl rfl 39 (by decide) (hts _ (List.mem_cons_of_mem _ fl_Mo_220)) (fun _ h => h) rfl (by decide +kernel) rfl rfl (Nat.le_of_ble_eq_true rfl) d_Mo_gather_93 (fun H locs hP hD hS => ?_)
            have hP : va_P D vwCl [(o, .inr (9, [(ϕ 0), (ϕ 1), (ϕ 2), (ϕ 3), (ϕ 4), (ϕ 5), (ϕ 6), (ϕ 7), (ϕ 8), (ϕ 9), (ϕ 10), .ref a_wArgument, (ϕ 12), (ϕ 13), .ref a_wOrder, .ref a_wDown, .ref a_wRange, .ref a_wLow, .ref a_wHigh, (ϕ 19), (ϕ 20), (ϕ 21), (ϕ 22), (ϕ 23), (ϕ 24), .ref a_value, .ref a_hole, (ϕ 27), (ϕ 28), .ref a_list, (ϕ 30), (ϕ 31), (ϕ 32), (ϕ 33), (ϕ 34), (ϕ 35), (ϕ 36), (ϕ 37), .int (oI f2), .int (oI (some (st + d))), .int (nI c1), .int e1, .int g1, .long s1])), (a_wOrder, .inl (cI, 3, .inl (zO oo))), (a_wDown, .inl (cZ, 3, .inl (zZ wd))), (a_wRange, .inl (cZ, 3, .inl (zZ wg))), (a_wLow, .inl (cI, 3, .inl wl)), (a_wHigh, .inl (cI, 3, .inl wh)), (a_list, .inl (cI, 60, .inl (zN li))), (a_value, .inl (cI, 540, .inl vl)), (a_hole, .inl (cZ, 540, .inl (zZ hl_))), (a_wArgument, .inl (cI, 3, .inl (zN wa)))] H := hP
            have hD : va_D A [(o, .inr (9, [(ϕ 0), (ϕ 1), (ϕ 2), (ϕ 3), (ϕ 4), (ϕ 5), (ϕ 6), (ϕ 7), (ϕ 8), (ϕ 9), (ϕ 10), .ref a_wArgument, (ϕ 12), (ϕ 13), .ref a_wOrder, .ref a_wDown, .ref a_wRange, .ref a_wLow, .ref a_wHigh, (ϕ 19), (ϕ 20), (ϕ 21), (ϕ 22), (ϕ 23), (ϕ 24), .ref a_value, .ref a_hole, (ϕ 27), (ϕ 28), .ref a_list, (ϕ 30), (ϕ 31), (ϕ 32), (ϕ 33), (ϕ 34), (ϕ 35), (ϕ 36), (ϕ 37), .int (oI f2), .int (oI (some (st + d))), .int (nI c1), .int e1, .int g1, .long s1])), (a_wOrder, .inl (cI, 3, .inl (zO oo))), (a_wDown, .inl (cZ, 3, .inl (zZ wd))), (a_wRange, .inl (cZ, 3, .inl (zZ wg))), (a_wLow, .inl (cI, 3, .inl wl)), (a_wHigh, .inl (cI, 3, .inl wh)), (a_list, .inl (cI, 60, .inl (zN li))), (a_value, .inl (cI, 540, .inl vl)), (a_hole, .inl (cZ, 540, .inl (zZ hl_))), (a_wArgument, .inl (cI, 3, .inl (zN wa)))] := hD
            refine lv_aload_n hx hb d_Mo_gather_96 rfl (lv_at hl 0 rfl) ?_
            refine va_get (C := R_Mo) (T := F_Mo) (N := 44) hx hb hts (fun w h => List.mem_cons_of_mem _ (hin_Mo w h)) hown hK hP 0 rfl rfl 26 (by decide) (hts _ (List.mem_cons_of_mem _ fl_Mo_56)) (fun _ h => h) rfl d_Mo_gather_97 ?_
            refine lv_iload hx hb d_Mo_gather_100 (lv_at hl 6 rfl) ?_
            refine zk_bald hx hb hK hP 8 2 rfl rfl (by omega) (by omega) d_Mo_gather_102 ?_
            refine zk_ifb_ne (tgt := 186) hx hb d_Mo_gather_103 rfl (fun h103 => ?_) (fun h103 => ?_)
            · skip
              have hz := gi_hole hI h39 (enc_nul.mpr h103 : mCol hl_ vl (wa w) (li (st + d)) = _) hf2
              refine lv_iinc (k := 5) (v := nI (st + d + 1)) (lv' := [(5, .int (nI (st + d + 1))), (0, .ref o), (1, .int (nI w)), (2, .int (nI st)), (3, .int (nI en)), (4, .int (nI i)), (6, .int (nI (9 * (li (st + d)) + (wa w)))), (7, .int (vl (9 * (li (st + d)) + (wa w))))]) hx hb d_Mo_gather_186 hl rfl (nI_add (st + d) 1) (by decide) rfl (fun ls hl => ?_)
              refine lv_goto (tgt := 23) hx hb d_Mo_gather_189 rfl ?_
              exact ih23 (d + 1) f2 (some (st + d)) c1 e1 g1 s1 (by omega) hz (by omega) ls _ _ (lv_sub hl [1, 2, 3, 4, 5, 0] rfl) hP hD hS
            · skip
              refine lv_aload_n hx hb d_Mo_gather_106 rfl (lv_at hl 0 rfl) ?_
              refine lv_aload_n hx hb d_Mo_gather_107 rfl (lv_at hl 0 rfl) ?_
              refine va_get (C := R_Mo) (T := F_Mo) (N := 44) hx hb hts (fun w h => List.mem_cons_of_mem _ (hin_Mo w h)) hown hK hP 0 rfl rfl 40 (by decide) (hts _ (List.mem_cons_of_mem _ fl_Mo_223)) (fun _ h => h) rfl d_Mo_gather_108 ?_
              have lb135 : ∀  (e2 : Int32), (e2 = if c1 = 0 ∨ (vl (9 * (li (st + d)) + (wa w))) < e1 then (vl (9 * (li (st + d)) + (wa w))) else e1) → ∀ (ls : Array Slot) (H : Heap) (locs : List Loc), lv_has ls 8 [(0, .ref o), (1, .int (nI w)), (2, .int (nI st)), (3, .int (nI en)), (4, .int (nI i)), (5, .int (nI (st + d))), (6, .int (nI (9 * (li (st + d)) + (wa w)))), (7, .int (vl (9 * (li (st + d)) + (wa w))))] → va_P D vwCl [(o, .inr (9, [(ϕ 0), (ϕ 1), (ϕ 2), (ϕ 3), (ϕ 4), (ϕ 5), (ϕ 6), (ϕ 7), (ϕ 8), (ϕ 9), (ϕ 10), .ref a_wArgument, (ϕ 12), (ϕ 13), .ref a_wOrder, .ref a_wDown, .ref a_wRange, .ref a_wLow, .ref a_wHigh, (ϕ 19), (ϕ 20), (ϕ 21), (ϕ 22), (ϕ 23), (ϕ 24), .ref a_value, .ref a_hole, (ϕ 27), (ϕ 28), .ref a_list, (ϕ 30), (ϕ 31), (ϕ 32), (ϕ 33), (ϕ 34), (ϕ 35), (ϕ 36), (ϕ 37), .int (oI f2), .int (oI (some (st + d))), .int (nI c1), .int e2, .int g1, .long s1])), (a_wOrder, .inl (cI, 3, .inl (zO oo))), (a_wDown, .inl (cZ, 3, .inl (zZ wd))), (a_wRange, .inl (cZ, 3, .inl (zZ wg))), (a_wLow, .inl (cI, 3, .inl wl)), (a_wHigh, .inl (cI, 3, .inl wh)), (a_list, .inl (cI, 60, .inl (zN li))), (a_value, .inl (cI, 540, .inl vl)), (a_hole, .inl (cZ, 540, .inl (zZ hl_))), (a_wArgument, .inl (cI, 3, .inl (zN wa)))] H → va_D A [(o, .inr (9, [(ϕ 0), (ϕ 1), (ϕ 2), (ϕ 3), (ϕ 4), (ϕ 5), (ϕ 6), (ϕ 7), (ϕ 8), (ϕ 9), (ϕ 10), .ref a_wArgument, (ϕ 12), (ϕ 13), .ref a_wOrder, .ref a_wDown, .ref a_wRange, .ref a_wLow, .ref a_wHigh, (ϕ 19), (ϕ 20), (ϕ 21), (ϕ 22), (ϕ 23), (ϕ 24), .ref a_value, .ref a_hole, (ϕ 27), (ϕ 28), .ref a_list, (ϕ 30), (ϕ 31), (ϕ 32), (ϕ 33), (ϕ 34), (ϕ 35), (ϕ 36), (ϕ 37), .int (oI f2), .int (oI (some (st + d))), .int (nI c1), .int e2, .int g1, .long s1])), (a_wOrder, .inl (cI, 3, .inl (zO oo))), (a_wDown, .inl (cZ, 3, .inl (zZ wd))), (a_wRange, .inl (cZ, 3, .inl (zZ wg))), (a_wLow, .inl (cI, 3, .inl wl)), (a_wHigh, .inl (cI, 3, .inl wh)), (a_list, .inl (cI, 60, .inl (zN li))), (a_value, .inl (cI, 540, .inl vl)), (a_hole, .inl (cZ, 540, .inl (zZ hl_))), (a_wArgument, .inl (cI, 3, .inl (zN wa)))] → va_S A s.heap H locs → W p l e rm1_40 s m args below meth c H locs 0 0 Q (F0 m 135 ls []) := by
                intro e2 he2 ls H locs hl hP hD hS
                refine lv_aload_n hx hb d_Mo_gather_135 rfl (lv_at hl 0 rfl) ?_
                refine lv_aload_n hx hb d_Mo_gather_136 rfl (lv_at hl 0 rfl) ?_
                refine va_get (C := R_Mo) (T := F_Mo) (N := 44) hx hb hts (fun w h => List.mem_cons_of_mem _ (hin_Mo w h)) hown hK hP 0 rfl rfl 40 (by decide) (hts _ (List.mem_cons_of_mem _ fl_Mo_223)) (fun _ h => h) rfl d_Mo_gather_137 ?_
                have lb164 : ∀  (g2 : Int32), (g2 = if c1 = 0 ∨ g1 < (vl (9 * (li (st + d)) + (wa w))) then (vl (9 * (li (st + d)) + (wa w))) else g1) → ∀ (ls : Array Slot) (H : Heap) (locs : List Loc), lv_has ls 8 [(0, .ref o), (1, .int (nI w)), (2, .int (nI st)), (3, .int (nI en)), (4, .int (nI i)), (5, .int (nI (st + d))), (6, .int (nI (9 * (li (st + d)) + (wa w)))), (7, .int (vl (9 * (li (st + d)) + (wa w))))] → va_P D vwCl [(o, .inr (9, [(ϕ 0), (ϕ 1), (ϕ 2), (ϕ 3), (ϕ 4), (ϕ 5), (ϕ 6), (ϕ 7), (ϕ 8), (ϕ 9), (ϕ 10), .ref a_wArgument, (ϕ 12), (ϕ 13), .ref a_wOrder, .ref a_wDown, .ref a_wRange, .ref a_wLow, .ref a_wHigh, (ϕ 19), (ϕ 20), (ϕ 21), (ϕ 22), (ϕ 23), (ϕ 24), .ref a_value, .ref a_hole, (ϕ 27), (ϕ 28), .ref a_list, (ϕ 30), (ϕ 31), (ϕ 32), (ϕ 33), (ϕ 34), (ϕ 35), (ϕ 36), (ϕ 37), .int (oI f2), .int (oI (some (st + d))), .int (nI c1), .int e2, .int g2, .long s1])), (a_wOrder, .inl (cI, 3, .inl (zO oo))), (a_wDown, .inl (cZ, 3, .inl (zZ wd))), (a_wRange, .inl (cZ, 3, .inl (zZ wg))), (a_wLow, .inl (cI, 3, .inl wl)), (a_wHigh, .inl (cI, 3, .inl wh)), (a_list, .inl (cI, 60, .inl (zN li))), (a_value, .inl (cI, 540, .inl vl)), (a_hole, .inl (cZ, 540, .inl (zZ hl_))), (a_wArgument, .inl (cI, 3, .inl (zN wa)))] H → va_D A [(o, .inr (9, [(ϕ 0), (ϕ 1), (ϕ 2), (ϕ 3), (ϕ 4), (ϕ 5), (ϕ 6), (ϕ 7), (ϕ 8), (ϕ 9), (ϕ 10), .ref a_wArgument, (ϕ 12), (ϕ 13), .ref a_wOrder, .ref a_wDown, .ref a_wRange, .ref a_wLow, .ref a_wHigh, (ϕ 19), (ϕ 20), (ϕ 21), (ϕ 22), (ϕ 23), (ϕ 24), .ref a_value, .ref a_hole, (ϕ 27), (ϕ 28), .ref a_list, (ϕ 30), (ϕ 31), (ϕ 32), (ϕ 33), (ϕ 34), (ϕ 35), (ϕ 36), (ϕ 37), .int (oI f2), .int (oI (some (st + d))), .int (nI c1), .int e2, .int g2, .long s1])), (a_wOrder, .inl (cI, 3, .inl (zO oo))), (a_wDown, .inl (cZ, 3, .inl (zZ wd))), (a_wRange, .inl (cZ, 3, .inl (zZ wg))), (a_wLow, .inl (cI, 3, .inl wl)), (a_wHigh, .inl (cI, 3, .inl wh)), (a_list, .inl (cI, 60, .inl (zN li))), (a_value, .inl (cI, 540, .inl vl)), (a_hole, .inl (cZ, 540, .inl (zZ hl_))), (a_wArgument, .inl (cI, 3, .inl (zN wa)))] → va_S A s.heap H locs → W p l e rm1_40 s m args below meth c H locs 0 0 Q (F0 m 164 ls []) := by
                  intro g2 hg2 ls H locs hl hP hD hS
                  refine lv_aload_n hx hb d_Mo_gather_164 rfl (lv_at hl 0 rfl) ?_
                  refine lv_dup hx hb d_Mo_gather_165 rfl ?_
                  refine va_get (C := R_Mo) (T := F_Mo) (N := 44) hx hb hts (fun w h => List.mem_cons_of_mem _ (hin_Mo w h)) hown hK hP 0 rfl rfl 43 (by decide) (hts _ (List.mem_cons_of_mem _ fl_Mo_226)) (fun _ h => h) rfl d_Mo_gather_166 ?_
                  refine lv_iload hx hb d_Mo_gather_169 (lv_at hl 7 rfl) ?_
                  refine lv_i2l (v := (vl (9 * (li (st + d)) + (wa w))).toInt64) hx hb d_Mo_gather_171 (rfl) ?_
                  refine lv_ladd hx hb d_Mo_gather_172 ?_
                  refine va_put (D := D) (v := .long (s1 + ((vl (9 * (li (st + d)) + (wa w))).toInt64))) (ty := .long) (C := R_Mo) (T := F_Mo) (N := 44) hx hb hts (fun w h => List.mem_cons_of_mem _ (hin_Mo w h)) t_Mo t_Mo_ok n_Mo hown hK hP hD hS 0 rfl rfl 43 (by decide) (hts _ (List.mem_cons_of_mem _ fl_Mo_226)) (fun _ h => h) rfl (by decide +kernel) rfl rfl (Nat.le_of_ble_eq_true rfl) d_Mo_gather_173 (fun H locs hP hD hS => ?_)
                  have hP : va_P D vwCl [(o, .inr (9, [(ϕ 0), (ϕ 1), (ϕ 2), (ϕ 3), (ϕ 4), (ϕ 5), (ϕ 6), (ϕ 7), (ϕ 8), (ϕ 9), (ϕ 10), .ref a_wArgument, (ϕ 12), (ϕ 13), .ref a_wOrder, .ref a_wDown, .ref a_wRange, .ref a_wLow, .ref a_wHigh, (ϕ 19), (ϕ 20), (ϕ 21), (ϕ 22), (ϕ 23), (ϕ 24), .ref a_value, .ref a_hole, (ϕ 27), (ϕ 28), .ref a_list, (ϕ 30), (ϕ 31), (ϕ 32), (ϕ 33), (ϕ 34), (ϕ 35), (ϕ 36), (ϕ 37), .int (oI f2), .int (oI (some (st + d))), .int (nI c1), .int e2, .int g2, .long (s1 + ((vl (9 * (li (st + d)) + (wa w))).toInt64))])), (a_wOrder, .inl (cI, 3, .inl (zO oo))), (a_wDown, .inl (cZ, 3, .inl (zZ wd))), (a_wRange, .inl (cZ, 3, .inl (zZ wg))), (a_wLow, .inl (cI, 3, .inl wl)), (a_wHigh, .inl (cI, 3, .inl wh)), (a_list, .inl (cI, 60, .inl (zN li))), (a_value, .inl (cI, 540, .inl vl)), (a_hole, .inl (cZ, 540, .inl (zZ hl_))), (a_wArgument, .inl (cI, 3, .inl (zN wa)))] H := hP
                  have hD : va_D A [(o, .inr (9, [(ϕ 0), (ϕ 1), (ϕ 2), (ϕ 3), (ϕ 4), (ϕ 5), (ϕ 6), (ϕ 7), (ϕ 8), (ϕ 9), (ϕ 10), .ref a_wArgument, (ϕ 12), (ϕ 13), .ref a_wOrder, .ref a_wDown, .ref a_wRange, .ref a_wLow, .ref a_wHigh, (ϕ 19), (ϕ 20), (ϕ 21), (ϕ 22), (ϕ 23), (ϕ 24), .ref a_value, .ref a_hole, (ϕ 27), (ϕ 28), .ref a_list, (ϕ 30), (ϕ 31), (ϕ 32), (ϕ 33), (ϕ 34), (ϕ 35), (ϕ 36), (ϕ 37), .int (oI f2), .int (oI (some (st + d))), .int (nI c1), .int e2, .int g2, .long (s1 + ((vl (9 * (li (st + d)) + (wa w))).toInt64))])), (a_wOrder, .inl (cI, 3, .inl (zO oo))), (a_wDown, .inl (cZ, 3, .inl (zZ wd))), (a_wRange, .inl (cZ, 3, .inl (zZ wg))), (a_wLow, .inl (cI, 3, .inl wl)), (a_wHigh, .inl (cI, 3, .inl wh)), (a_list, .inl (cI, 60, .inl (zN li))), (a_value, .inl (cI, 540, .inl vl)), (a_hole, .inl (cZ, 540, .inl (zZ hl_))), (a_wArgument, .inl (cI, 3, .inl (zN wa)))] := hD
                  refine lv_aload_n hx hb d_Mo_gather_176 rfl (lv_at hl 0 rfl) ?_
                  refine lv_dup hx hb d_Mo_gather_177 rfl ?_
                  refine va_get (C := R_Mo) (T := F_Mo) (N := 44) hx hb hts (fun w h => List.mem_cons_of_mem _ (hin_Mo w h)) hown hK hP 0 rfl rfl 40 (by decide) (hts _ (List.mem_cons_of_mem _ fl_Mo_223)) (fun _ h => h) rfl d_Mo_gather_178 ?_
                  refine lv_iconst (v := nI 1) hx hb d_Mo_gather_181 (by decide) ?_
                  refine lv_iadd hx hb d_Mo_gather_182 ?_
                  refine zk_topi (show ((nI c1) + (nI 1)) = nI (c1 + 1) from nI_add c1 1) ?_
                  refine va_put (D := D) (v := .int (nI (c1 + 1))) (ty := .int) (C := R_Mo) (T := F_Mo) (N := 44) hx hb hts (fun w h => List.mem_cons_of_mem _ (hin_Mo w h)) t_Mo t_Mo_ok n_Mo hown hK hP hD hS 0 rfl rfl 40 (by decide) (hts _ (List.mem_cons_of_mem _ fl_Mo_223)) (fun _ h => h) rfl (by decide +kernel) rfl rfl (Nat.le_of_ble_eq_true rfl) d_Mo_gather_183 (fun H locs hP hD hS => ?_)
                  have hP : va_P D vwCl [(o, .inr (9, [(ϕ 0), (ϕ 1), (ϕ 2), (ϕ 3), (ϕ 4), (ϕ 5), (ϕ 6), (ϕ 7), (ϕ 8), (ϕ 9), (ϕ 10), .ref a_wArgument, (ϕ 12), (ϕ 13), .ref a_wOrder, .ref a_wDown, .ref a_wRange, .ref a_wLow, .ref a_wHigh, (ϕ 19), (ϕ 20), (ϕ 21), (ϕ 22), (ϕ 23), (ϕ 24), .ref a_value, .ref a_hole, (ϕ 27), (ϕ 28), .ref a_list, (ϕ 30), (ϕ 31), (ϕ 32), (ϕ 33), (ϕ 34), (ϕ 35), (ϕ 36), (ϕ 37), .int (oI f2), .int (oI (some (st + d))), .int (nI (c1 + 1)), .int e2, .int g2, .long (s1 + ((vl (9 * (li (st + d)) + (wa w))).toInt64))])), (a_wOrder, .inl (cI, 3, .inl (zO oo))), (a_wDown, .inl (cZ, 3, .inl (zZ wd))), (a_wRange, .inl (cZ, 3, .inl (zZ wg))), (a_wLow, .inl (cI, 3, .inl wl)), (a_wHigh, .inl (cI, 3, .inl wh)), (a_list, .inl (cI, 60, .inl (zN li))), (a_value, .inl (cI, 540, .inl vl)), (a_hole, .inl (cZ, 540, .inl (zZ hl_))), (a_wArgument, .inl (cI, 3, .inl (zN wa)))] H := hP
                  have hD : va_D A [(o, .inr (9, [(ϕ 0), (ϕ 1), (ϕ 2), (ϕ 3), (ϕ 4), (ϕ 5), (ϕ 6), (ϕ 7), (ϕ 8), (ϕ 9), (ϕ 10), .ref a_wArgument, (ϕ 12), (ϕ 13), .ref a_wOrder, .ref a_wDown, .ref a_wRange, .ref a_wLow, .ref a_wHigh, (ϕ 19), (ϕ 20), (ϕ 21), (ϕ 22), (ϕ 23), (ϕ 24), .ref a_value, .ref a_hole, (ϕ 27), (ϕ 28), .ref a_list, (ϕ 30), (ϕ 31), (ϕ 32), (ϕ 33), (ϕ 34), (ϕ 35), (ϕ 36), (ϕ 37), .int (oI f2), .int (oI (some (st + d))), .int (nI (c1 + 1)), .int e2, .int g2, .long (s1 + ((vl (9 * (li (st + d)) + (wa w))).toInt64))])), (a_wOrder, .inl (cI, 3, .inl (zO oo))), (a_wDown, .inl (cZ, 3, .inl (zZ wd))), (a_wRange, .inl (cZ, 3, .inl (zZ wg))), (a_wLow, .inl (cI, 3, .inl wl)), (a_wHigh, .inl (cI, 3, .inl wh)), (a_list, .inl (cI, 60, .inl (zN li))), (a_value, .inl (cI, 540, .inl vl)), (a_hole, .inl (cZ, 540, .inl (zZ hl_))), (a_wArgument, .inl (cI, 3, .inl (zN wa)))] := hD
                  have hz := gi_val hI h39 (show mCol hl_ vl (wa w) (li (st + d)) = (vl (9 * (li (st + d)) + (wa w))).toInt64 from by show enc (hl_ (9 * (li (st + d)) + (wa w))) (vl (9 * (li (st + d)) + (wa w))) = _; rw [h103]; exact enc_f) hf2 he2 hg2
                  refine lv_iinc (k := 5) (v := nI (st + d + 1)) (lv' := [(5, .int (nI (st + d + 1))), (0, .ref o), (1, .int (nI w)), (2, .int (nI st)), (3, .int (nI en)), (4, .int (nI i)), (6, .int (nI (9 * (li (st + d)) + (wa w)))), (7, .int (vl (9 * (li (st + d)) + (wa w))))]) hx hb d_Mo_gather_186 hl rfl (nI_add (st + d) 1) (by decide) rfl (fun ls hl => ?_)
                  refine lv_goto (tgt := 23) hx hb d_Mo_gather_189 rfl ?_
                  exact ih23 (d + 1) f2 (some (st + d)) (c1 + 1) e2 g2 (s1 + ((vl (9 * (li (st + d)) + (wa w))).toInt64)) (by omega) hz (by omega) ls _ _ (lv_sub hl [1, 2, 3, 4, 5, 0] rfl) hP hD hS
                refine zk_if_eq (tgt := 152) hx hb d_Mo_gather_140 rfl (by omega) (fun h140 => ?_) (fun h140 => ?_)
                · skip
                  have hz4 : (vl (9 * (li (st + d)) + (wa w))) = if c1 = 0 ∨ g1 < (vl (9 * (li (st + d)) + (wa w))) then (vl (9 * (li (st + d)) + (wa w))) else g1 := (if_pos (Or.inl h140)).symm
                  refine lv_iload hx hb d_Mo_gather_152 (lv_at hl 7 rfl) ?_
                  refine lv_goto (tgt := 161) hx hb d_Mo_gather_154 rfl ?_
                  refine va_put (D := D) (v := .int (vl (9 * (li (st + d)) + (wa w)))) (ty := .int) (C := R_Mo) (T := F_Mo) (N := 44) hx hb hts (fun w h => List.mem_cons_of_mem _ (hin_Mo w h)) t_Mo t_Mo_ok n_Mo hown hK hP hD hS 0 rfl rfl 42 (by decide) (hts _ (List.mem_cons_of_mem _ fl_Mo_237)) (fun _ h => h) rfl (by decide +kernel) rfl rfl (Nat.le_of_ble_eq_true rfl) d_Mo_gather_161 (fun H locs hP hD hS => ?_)
                  have hP : va_P D vwCl [(o, .inr (9, [(ϕ 0), (ϕ 1), (ϕ 2), (ϕ 3), (ϕ 4), (ϕ 5), (ϕ 6), (ϕ 7), (ϕ 8), (ϕ 9), (ϕ 10), .ref a_wArgument, (ϕ 12), (ϕ 13), .ref a_wOrder, .ref a_wDown, .ref a_wRange, .ref a_wLow, .ref a_wHigh, (ϕ 19), (ϕ 20), (ϕ 21), (ϕ 22), (ϕ 23), (ϕ 24), .ref a_value, .ref a_hole, (ϕ 27), (ϕ 28), .ref a_list, (ϕ 30), (ϕ 31), (ϕ 32), (ϕ 33), (ϕ 34), (ϕ 35), (ϕ 36), (ϕ 37), .int (oI f2), .int (oI (some (st + d))), .int (nI c1), .int e2, .int (vl (9 * (li (st + d)) + (wa w))), .long s1])), (a_wOrder, .inl (cI, 3, .inl (zO oo))), (a_wDown, .inl (cZ, 3, .inl (zZ wd))), (a_wRange, .inl (cZ, 3, .inl (zZ wg))), (a_wLow, .inl (cI, 3, .inl wl)), (a_wHigh, .inl (cI, 3, .inl wh)), (a_list, .inl (cI, 60, .inl (zN li))), (a_value, .inl (cI, 540, .inl vl)), (a_hole, .inl (cZ, 540, .inl (zZ hl_))), (a_wArgument, .inl (cI, 3, .inl (zN wa)))] H := hP
                  have hD : va_D A [(o, .inr (9, [(ϕ 0), (ϕ 1), (ϕ 2), (ϕ 3), (ϕ 4), (ϕ 5), (ϕ 6), (ϕ 7), (ϕ 8), (ϕ 9), (ϕ 10), .ref a_wArgument, (ϕ 12), (ϕ 13), .ref a_wOrder, .ref a_wDown, .ref a_wRange, .ref a_wLow, .ref a_wHigh, (ϕ 19), (ϕ 20), (ϕ 21), (ϕ 22), (ϕ 23), (ϕ 24), .ref a_value, .ref a_hole, (ϕ 27), (ϕ 28), .ref a_list, (ϕ 30), (ϕ 31), (ϕ 32), (ϕ 33), (ϕ 34), (ϕ 35), (ϕ 36), (ϕ 37), .int (oI f2), .int (oI (some (st + d))), .int (nI c1), .int e2, .int (vl (9 * (li (st + d)) + (wa w))), .long s1])), (a_wOrder, .inl (cI, 3, .inl (zO oo))), (a_wDown, .inl (cZ, 3, .inl (zZ wd))), (a_wRange, .inl (cZ, 3, .inl (zZ wg))), (a_wLow, .inl (cI, 3, .inl wl)), (a_wHigh, .inl (cI, 3, .inl wh)), (a_list, .inl (cI, 60, .inl (zN li))), (a_value, .inl (cI, 540, .inl vl)), (a_hole, .inl (cZ, 540, .inl (zZ hl_))), (a_wArgument, .inl (cI, 3, .inl (zN wa)))] := hD
                  exact lb164 (vl (9 * (li (st + d)) + (wa w))) hz4 ls _ _ (lv_sub hl [0, 1, 2, 3, 4, 5, 6, 7] rfl) hP hD hS
                · skip
                  refine lv_iload hx hb d_Mo_gather_143 (lv_at hl 7 rfl) ?_
                  refine lv_aload_n hx hb d_Mo_gather_145 rfl (lv_at hl 0 rfl) ?_
                  refine va_get (C := R_Mo) (T := F_Mo) (N := 44) hx hb hts (fun w h => List.mem_cons_of_mem _ (hin_Mo w h)) hown hK hP 0 rfl rfl 42 (by decide) (hts _ (List.mem_cons_of_mem _ fl_Mo_237)) (fun _ h => h) rfl d_Mo_gather_146 ?_
                  refine lv_icmp_le (tgt := 157) hx hb d_Mo_gather_149 rfl (fun h149 => ?_) (fun h149 => ?_)
                  · skip
                    have hz4 : g1 = if c1 = 0 ∨ g1 < (vl (9 * (li (st + d)) + (wa w))) then (vl (9 * (li (st + d)) + (wa w))) else g1 := (if_neg (fun q => q.elim h140 (Int32.not_lt.mpr h149))).symm
                    refine lv_aload_n hx hb d_Mo_gather_157 rfl (lv_at hl 0 rfl) ?_
                    refine va_get (C := R_Mo) (T := F_Mo) (N := 44) hx hb hts (fun w h => List.mem_cons_of_mem _ (hin_Mo w h)) hown hK hP 0 rfl rfl 42 (by decide) (hts _ (List.mem_cons_of_mem _ fl_Mo_237)) (fun _ h => h) rfl d_Mo_gather_158 ?_
                    refine va_put (D := D) (v := .int g1) (ty := .int) (C := R_Mo) (T := F_Mo) (N := 44) hx hb hts (fun w h => List.mem_cons_of_mem _ (hin_Mo w h)) t_Mo t_Mo_ok n_Mo hown hK hP hD hS 0 rfl rfl 42 (by decide) (hts _ (List.mem_cons_of_mem _ fl_Mo_237)) (fun _ h => h) rfl (by decide +kernel) rfl rfl (Nat.le_of_ble_eq_true rfl) d_Mo_gather_161 (fun H locs hP hD hS => ?_)
                    have hP : va_P D vwCl [(o, .inr (9, [(ϕ 0), (ϕ 1), (ϕ 2), (ϕ 3), (ϕ 4), (ϕ 5), (ϕ 6), (ϕ 7), (ϕ 8), (ϕ 9), (ϕ 10), .ref a_wArgument, (ϕ 12), (ϕ 13), .ref a_wOrder, .ref a_wDown, .ref a_wRange, .ref a_wLow, .ref a_wHigh, (ϕ 19), (ϕ 20), (ϕ 21), (ϕ 22), (ϕ 23), (ϕ 24), .ref a_value, .ref a_hole, (ϕ 27), (ϕ 28), .ref a_list, (ϕ 30), (ϕ 31), (ϕ 32), (ϕ 33), (ϕ 34), (ϕ 35), (ϕ 36), (ϕ 37), .int (oI f2), .int (oI (some (st + d))), .int (nI c1), .int e2, .int g1, .long s1])), (a_wOrder, .inl (cI, 3, .inl (zO oo))), (a_wDown, .inl (cZ, 3, .inl (zZ wd))), (a_wRange, .inl (cZ, 3, .inl (zZ wg))), (a_wLow, .inl (cI, 3, .inl wl)), (a_wHigh, .inl (cI, 3, .inl wh)), (a_list, .inl (cI, 60, .inl (zN li))), (a_value, .inl (cI, 540, .inl vl)), (a_hole, .inl (cZ, 540, .inl (zZ hl_))), (a_wArgument, .inl (cI, 3, .inl (zN wa)))] H := hP
                    have hD : va_D A [(o, .inr (9, [(ϕ 0), (ϕ 1), (ϕ 2), (ϕ 3), (ϕ 4), (ϕ 5), (ϕ 6), (ϕ 7), (ϕ 8), (ϕ 9), (ϕ 10), .ref a_wArgument, (ϕ 12), (ϕ 13), .ref a_wOrder, .ref a_wDown, .ref a_wRange, .ref a_wLow, .ref a_wHigh, (ϕ 19), (ϕ 20), (ϕ 21), (ϕ 22), (ϕ 23), (ϕ 24), .ref a_value, .ref a_hole, (ϕ 27), (ϕ 28), .ref a_list, (ϕ 30), (ϕ 31), (ϕ 32), (ϕ 33), (ϕ 34), (ϕ 35), (ϕ 36), (ϕ 37), .int (oI f2), .int (oI (some (st + d))), .int (nI c1), .int e2, .int g1, .long s1])), (a_wOrder, .inl (cI, 3, .inl (zO oo))), (a_wDown, .inl (cZ, 3, .inl (zZ wd))), (a_wRange, .inl (cZ, 3, .inl (zZ wg))), (a_wLow, .inl (cI, 3, .inl wl)), (a_wHigh, .inl (cI, 3, .inl wh)), (a_list, .inl (cI, 60, .inl (zN li))), (a_value, .inl (cI, 540, .inl vl)), (a_hole, .inl (cZ, 540, .inl (zZ hl_))), (a_wArgument, .inl (cI, 3, .inl (zN wa)))] := hD
                    exact lb164 g1 hz4 ls _ _ (lv_sub hl [0, 1, 2, 3, 4, 5, 6, 7] rfl) hP hD hS
                  · skip
                    have hz4 : (vl (9 * (li (st + d)) + (wa w))) = if c1 = 0 ∨ g1 < (vl (9 * (li (st + d)) + (wa w))) then (vl (9 * (li (st + d)) + (wa w))) else g1 := (if_pos (Or.inr (Int32.not_le.mp h149))).symm
                    refine lv_iload hx hb d_Mo_gather_152 (lv_at hl 7 rfl) ?_
                    refine lv_goto (tgt := 161) hx hb d_Mo_gather_154 rfl ?_
                    refine va_put (D := D) (v := .int (vl (9 * (li (st + d)) + (wa w)))) (ty := .int) (C := R_Mo) (T := F_Mo) (N := 44) hx hb hts (fun w h => List.mem_cons_of_mem _ (hin_Mo w h)) t_Mo t_Mo_ok n_Mo hown hK hP hD hS 0 rfl rfl 42 (by decide) (hts _ (List.mem_cons_of_mem _ fl_Mo_237)) (fun _ h => h) rfl (by decide +kernel) rfl rfl (Nat.le_of_ble_eq_true rfl) d_Mo_gather_161 (fun H locs hP hD hS => ?_)
                    have hP : va_P D vwCl [(o, .inr (9, [(ϕ 0), (ϕ 1), (ϕ 2), (ϕ 3), (ϕ 4), (ϕ 5), (ϕ 6), (ϕ 7), (ϕ 8), (ϕ 9), (ϕ 10), .ref a_wArgument, (ϕ 12), (ϕ 13), .ref a_wOrder, .ref a_wDown, .ref a_wRange, .ref a_wLow, .ref a_wHigh, (ϕ 19), (ϕ 20), (ϕ 21), (ϕ 22), (ϕ 23), (ϕ 24), .ref a_value, .ref a_hole, (ϕ 27), (ϕ 28), .ref a_list, (ϕ 30), (ϕ 31), (ϕ 32), (ϕ 33), (ϕ 34), (ϕ 35), (ϕ 36), (ϕ 37), .int (oI f2), .int (oI (some (st + d))), .int (nI c1), .int e2, .int (vl (9 * (li (st + d)) + (wa w))), .long s1])), (a_wOrder, .inl (cI, 3, .inl (zO oo))), (a_wDown, .inl (cZ, 3, .inl (zZ wd))), (a_wRange, .inl (cZ, 3, .inl (zZ wg))), (a_wLow, .inl (cI, 3, .inl wl)), (a_wHigh, .inl (cI, 3, .inl wh)), (a_list, .inl (cI, 60, .inl (zN li))), (a_value, .inl (cI, 540, .inl vl)), (a_hole, .inl (cZ, 540, .inl (zZ hl_))), (a_wArgument, .inl (cI, 3, .inl (zN wa)))] H := hP
                    have hD : va_D A [(o, .inr (9, [(ϕ 0), (ϕ 1), (ϕ 2), (ϕ 3), (ϕ 4), (ϕ 5), (ϕ 6), (ϕ 7), (ϕ 8), (ϕ 9), (ϕ 10), .ref a_wArgument, (ϕ 12), (ϕ 13), .ref a_wOrder, .ref a_wDown, .ref a_wRange, .ref a_wLow, .ref a_wHigh, (ϕ 19), (ϕ 20), (ϕ 21), (ϕ 22), (ϕ 23), (ϕ 24), .ref a_value, .ref a_hole, (ϕ 27), (ϕ 28), .ref a_list, (ϕ 30), (ϕ 31), (ϕ 32), (ϕ 33), (ϕ 34), (ϕ 35), (ϕ 36), (ϕ 37), .int (oI f2), .int (oI (some (st + d))), .int (nI c1), .int e2, .int (vl (9 * (li (st + d)) + (wa w))), .long s1])), (a_wOrder, .inl (cI, 3, .inl (zO oo))), (a_wDown, .inl (cZ, 3, .inl (zZ wd))), (a_wRange, .inl (cZ, 3, .inl (zZ wg))), (a_wLow, .inl (cI, 3, .inl wl)), (a_wHigh, .inl (cI, 3, .inl wh)), (a_list, .inl (cI, 60, .inl (zN li))), (a_value, .inl (cI, 540, .inl vl)), (a_hole, .inl (cZ, 540, .inl (zZ hl_))), (a_wArgument, .inl (cI, 3, .inl (zN wa)))] := hD
                    exact lb164 (vl (9 * (li (st + d)) + (wa w))) hz4 ls _ _ (lv_sub hl [0, 1, 2, 3, 4, 5, 6, 7] rfl) hP hD hS
              refine zk_if_eq (tgt := 123) hx hb d_Mo_gather_111 rfl (by omega) (fun h111 => ?_) (fun h111 => ?_)
              · skip
                have hz3 : (vl (9 * (li (st + d)) + (wa w))) = if c1 = 0 ∨ (vl (9 * (li (st + d)) + (wa w))) < e1 then (vl (9 * (li (st + d)) + (wa w))) else e1 := (if_pos (Or.inl h111)).symm
                refine lv_iload hx hb d_Mo_gather_123 (lv_at hl 7 rfl) ?_
                refine lv_goto (tgt := 132) hx hb d_Mo_gather_125 rfl ?_
                refine va_put (D := D) (v := .int (vl (9 * (li (st + d)) + (wa w)))) (ty := .int) (C := R_Mo) (T := F_Mo) (N := 44) hx hb hts (fun w h => List.mem_cons_of_mem _ (hin_Mo w h)) t_Mo t_Mo_ok n_Mo hown hK hP hD hS 0 rfl rfl 41 (by decide) (hts _ (List.mem_cons_of_mem _ fl_Mo_234)) (fun _ h => h) rfl (by decide +kernel) rfl rfl (Nat.le_of_ble_eq_true rfl) d_Mo_gather_132 (fun H locs hP hD hS => ?_)
                have hP : va_P D vwCl [(o, .inr (9, [(ϕ 0), (ϕ 1), (ϕ 2), (ϕ 3), (ϕ 4), (ϕ 5), (ϕ 6), (ϕ 7), (ϕ 8), (ϕ 9), (ϕ 10), .ref a_wArgument, (ϕ 12), (ϕ 13), .ref a_wOrder, .ref a_wDown, .ref a_wRange, .ref a_wLow, .ref a_wHigh, (ϕ 19), (ϕ 20), (ϕ 21), (ϕ 22), (ϕ 23), (ϕ 24), .ref a_value, .ref a_hole, (ϕ 27), (ϕ 28), .ref a_list, (ϕ 30), (ϕ 31), (ϕ 32), (ϕ 33), (ϕ 34), (ϕ 35), (ϕ 36), (ϕ 37), .int (oI f2), .int (oI (some (st + d))), .int (nI c1), .int (vl (9 * (li (st + d)) + (wa w))), .int g1, .long s1])), (a_wOrder, .inl (cI, 3, .inl (zO oo))), (a_wDown, .inl (cZ, 3, .inl (zZ wd))), (a_wRange, .inl (cZ, 3, .inl (zZ wg))), (a_wLow, .inl (cI, 3, .inl wl)), (a_wHigh, .inl (cI, 3, .inl wh)), (a_list, .inl (cI, 60, .inl (zN li))), (a_value, .inl (cI, 540, .inl vl)), (a_hole, .inl (cZ, 540, .inl (zZ hl_))), (a_wArgument, .inl (cI, 3, .inl (zN wa)))] H := hP
                have hD : va_D A [(o, .inr (9, [(ϕ 0), (ϕ 1), (ϕ 2), (ϕ 3), (ϕ 4), (ϕ 5), (ϕ 6), (ϕ 7), (ϕ 8), (ϕ 9), (ϕ 10), .ref a_wArgument, (ϕ 12), (ϕ 13), .ref a_wOrder, .ref a_wDown, .ref a_wRange, .ref a_wLow, .ref a_wHigh, (ϕ 19), (ϕ 20), (ϕ 21), (ϕ 22), (ϕ 23), (ϕ 24), .ref a_value, .ref a_hole, (ϕ 27), (ϕ 28), .ref a_list, (ϕ 30), (ϕ 31), (ϕ 32), (ϕ 33), (ϕ 34), (ϕ 35), (ϕ 36), (ϕ 37), .int (oI f2), .int (oI (some (st + d))), .int (nI c1), .int (vl (9 * (li (st + d)) + (wa w))), .int g1, .long s1])), (a_wOrder, .inl (cI, 3, .inl (zO oo))), (a_wDown, .inl (cZ, 3, .inl (zZ wd))), (a_wRange, .inl (cZ, 3, .inl (zZ wg))), (a_wLow, .inl (cI, 3, .inl wl)), (a_wHigh, .inl (cI, 3, .inl wh)), (a_list, .inl (cI, 60, .inl (zN li))), (a_value, .inl (cI, 540, .inl vl)), (a_hole, .inl (cZ, 540, .inl (zZ hl_))), (a_wArgument, .inl (cI, 3, .inl (zN wa)))] := hD
                exact lb135 (vl (9 * (li (st + d)) + (wa w))) hz3 ls _ _ (lv_sub hl [0, 1, 2, 3, 4, 5, 6, 7] rfl) hP hD hS
              · skip
                refine lv_iload hx hb d_Mo_gather_114 (lv_at hl 7 rfl) ?_
                refine lv_aload_n hx hb d_Mo_gather_116 rfl (lv_at hl 0 rfl) ?_
                refine va_get (C := R_Mo) (T := F_Mo) (N := 44) hx hb hts (fun w h => List.mem_cons_of_mem _ (hin_Mo w h)) hown hK hP 0 rfl rfl 41 (by decide) (hts _ (List.mem_cons_of_mem _ fl_Mo_234)) (fun _ h => h) rfl d_Mo_gather_117 ?_
                refine lv_icmp_ge (tgt := 128) hx hb d_Mo_gather_120 rfl (fun h120 => ?_) (fun h120 => ?_)
                · skip
                  have hz3 : e1 = if c1 = 0 ∨ (vl (9 * (li (st + d)) + (wa w))) < e1 then (vl (9 * (li (st + d)) + (wa w))) else e1 := (if_neg (fun q => q.elim h111 (Int32.not_lt.mpr h120))).symm
                  refine lv_aload_n hx hb d_Mo_gather_128 rfl (lv_at hl 0 rfl) ?_
                  refine va_get (C := R_Mo) (T := F_Mo) (N := 44) hx hb hts (fun w h => List.mem_cons_of_mem _ (hin_Mo w h)) hown hK hP 0 rfl rfl 41 (by decide) (hts _ (List.mem_cons_of_mem _ fl_Mo_234)) (fun _ h => h) rfl d_Mo_gather_129 ?_
                  refine va_put (D := D) (v := .int e1) (ty := .int) (C := R_Mo) (T := F_Mo) (N := 44) hx hb hts (fun w h => List.mem_cons_of_mem _ (hin_Mo w h)) t_Mo t_Mo_ok n_Mo hown hK hP hD hS 0 rfl rfl 41 (by decide) (hts _ (List.mem_cons_of_mem _ fl_Mo_234)) (fun _ h => h) rfl (by decide +kernel) rfl rfl (Nat.le_of_ble_eq_true rfl) d_Mo_gather_132 (fun H locs hP hD hS => ?_)
                  have hP : va_P D vwCl [(o, .inr (9, [(ϕ 0), (ϕ 1), (ϕ 2), (ϕ 3), (ϕ 4), (ϕ 5), (ϕ 6), (ϕ 7), (ϕ 8), (ϕ 9), (ϕ 10), .ref a_wArgument, (ϕ 12), (ϕ 13), .ref a_wOrder, .ref a_wDown, .ref a_wRange, .ref a_wLow, .ref a_wHigh, (ϕ 19), (ϕ 20), (ϕ 21), (ϕ 22), (ϕ 23), (ϕ 24), .ref a_value, .ref a_hole, (ϕ 27), (ϕ 28), .ref a_list, (ϕ 30), (ϕ 31), (ϕ 32), (ϕ 33), (ϕ 34), (ϕ 35), (ϕ 36), (ϕ 37), .int (oI f2), .int (oI (some (st + d))), .int (nI c1), .int e1, .int g1, .long s1])), (a_wOrder, .inl (cI, 3, .inl (zO oo))), (a_wDown, .inl (cZ, 3, .inl (zZ wd))), (a_wRange, .inl (cZ, 3, .inl (zZ wg))), (a_wLow, .inl (cI, 3, .inl wl)), (a_wHigh, .inl (cI, 3, .inl wh)), (a_list, .inl (cI, 60, .inl (zN li))), (a_value, .inl (cI, 540, .inl vl)), (a_hole, .inl (cZ, 540, .inl (zZ hl_))), (a_wArgument, .inl (cI, 3, .inl (zN wa)))] H := hP
                  have hD : va_D A [(o, .inr (9, [(ϕ 0), (ϕ 1), (ϕ 2), (ϕ 3), (ϕ 4), (ϕ 5), (ϕ 6), (ϕ 7), (ϕ 8), (ϕ 9), (ϕ 10), .ref a_wArgument, (ϕ 12), (ϕ 13), .ref a_wOrder, .ref a_wDown, .ref a_wRange, .ref a_wLow, .ref a_wHigh, (ϕ 19), (ϕ 20), (ϕ 21), (ϕ 22), (ϕ 23), (ϕ 24), .ref a_value, .ref a_hole, (ϕ 27), (ϕ 28), .ref a_list, (ϕ 30), (ϕ 31), (ϕ 32), (ϕ 33), (ϕ 34), (ϕ 35), (ϕ 36), (ϕ 37), .int (oI f2), .int (oI (some (st + d))), .int (nI c1), .int e1, .int g1, .long s1])), (a_wOrder, .inl (cI, 3, .inl (zO oo))), (a_wDown, .inl (cZ, 3, .inl (zZ wd))), (a_wRange, .inl (cZ, 3, .inl (zZ wg))), (a_wLow, .inl (cI, 3, .inl wl)), (a_wHigh, .inl (cI, 3, .inl wh)), (a_list, .inl (cI, 60, .inl (zN li))), (a_value, .inl (cI, 540, .inl vl)), (a_hole, .inl (cZ, 540, .inl (zZ hl_))), (a_wArgument, .inl (cI, 3, .inl (zN wa)))] := hD
                  exact lb135 e1 hz3 ls _ _ (lv_sub hl [0, 1, 2, 3, 4, 5, 6, 7] rfl) hP hD hS
                · skip
                  have hz3 : (vl (9 * (li (st + d)) + (wa w))) = if c1 = 0 ∨ (vl (9 * (li (st + d)) + (wa w))) < e1 then (vl (9 * (li (st + d)) + (wa w))) else e1 := (if_pos (Or.inr (Int32.not_le.mp h120))).symm
                  refine lv_iload hx hb d_Mo_gather_123 (lv_at hl 7 rfl) ?_
                  refine lv_goto (tgt := 132) hx hb d_Mo_gather_125 rfl ?_
                  refine va_put (D := D) (v := .int (vl (9 * (li (st + d)) + (wa w)))) (ty := .int) (C := R_Mo) (T := F_Mo) (N := 44) hx hb hts (fun w h => List.mem_cons_of_mem _ (hin_Mo w h)) t_Mo t_Mo_ok n_Mo hown hK hP hD hS 0 rfl rfl 41 (by decide) (hts _ (List.mem_cons_of_mem _ fl_Mo_234)) (fun _ h => h) rfl (by decide +kernel) rfl rfl (Nat.le_of_ble_eq_true rfl) d_Mo_gather_132 (fun H locs hP hD hS => ?_)
                  have hP : va_P D vwCl [(o, .inr (9, [(ϕ 0), (ϕ 1), (ϕ 2), (ϕ 3), (ϕ 4), (ϕ 5), (ϕ 6), (ϕ 7), (ϕ 8), (ϕ 9), (ϕ 10), .ref a_wArgument, (ϕ 12), (ϕ 13), .ref a_wOrder, .ref a_wDown, .ref a_wRange, .ref a_wLow, .ref a_wHigh, (ϕ 19), (ϕ 20), (ϕ 21), (ϕ 22), (ϕ 23), (ϕ 24), .ref a_value, .ref a_hole, (ϕ 27), (ϕ 28), .ref a_list, (ϕ 30), (ϕ 31), (ϕ 32), (ϕ 33), (ϕ 34), (ϕ 35), (ϕ 36), (ϕ 37), .int (oI f2), .int (oI (some (st + d))), .int (nI c1), .int (vl (9 * (li (st + d)) + (wa w))), .int g1, .long s1])), (a_wOrder, .inl (cI, 3, .inl (zO oo))), (a_wDown, .inl (cZ, 3, .inl (zZ wd))), (a_wRange, .inl (cZ, 3, .inl (zZ wg))), (a_wLow, .inl (cI, 3, .inl wl)), (a_wHigh, .inl (cI, 3, .inl wh)), (a_list, .inl (cI, 60, .inl (zN li))), (a_value, .inl (cI, 540, .inl vl)), (a_hole, .inl (cZ, 540, .inl (zZ hl_))), (a_wArgument, .inl (cI, 3, .inl (zN wa)))] H := hP
                  have hD : va_D A [(o, .inr (9, [(ϕ 0), (ϕ 1), (ϕ 2), (ϕ 3), (ϕ 4), (ϕ 5), (ϕ 6), (ϕ 7), (ϕ 8), (ϕ 9), (ϕ 10), .ref a_wArgument, (ϕ 12), (ϕ 13), .ref a_wOrder, .ref a_wDown, .ref a_wRange, .ref a_wLow, .ref a_wHigh, (ϕ 19), (ϕ 20), (ϕ 21), (ϕ 22), (ϕ 23), (ϕ 24), .ref a_value, .ref a_hole, (ϕ 27), (ϕ 28), .ref a_list, (ϕ 30), (ϕ 31), (ϕ 32), (ϕ 33), (ϕ 34), (ϕ 35), (ϕ 36), (ϕ 37), .int (oI f2), .int (oI (some (st + d))), .int (nI c1), .int (vl (9 * (li (st + d)) + (wa w))), .int g1, .long s1])), (a_wOrder, .inl (cI, 3, .inl (zO oo))), (a_wDown, .inl (cZ, 3, .inl (zZ wd))), (a_wRange, .inl (cZ, 3, .inl (zZ wg))), (a_wLow, .inl (cI, 3, .inl wl)), (a_wHigh, .inl (cI, 3, .inl wh)), (a_list, .inl (cI, 60, .inl (zN li))), (a_value, .inl (cI, 540, .inl vl)), (a_hole, .inl (cZ, 540, .inl (zZ hl_))), (a_wArgument, .inl (cI, 3, .inl (zN wa)))] := hD
                  exact lb135 (vl (9 * (li (st + d)) + (wa w))) hz3 ls _ _ (lv_sub hl [0, 1, 2, 3, 4, 5, 6, 7] rfl) hP hD hS
          refine lv_if_ge (tgt := 83) hx hb d_Mo_gather_75 rfl (fun h75 => ?_) (fun h75 => ?_)
          · skip
            obtain ⟨x75, e75⟩ := oI_ge0 (Int32.not_lt.mpr h75)
            have hz2 : f1 = gFst (inF (mOl hl_ vl li (oo w)) (wd w) (wg w) (wl w) (wh w) i) st (d + 1) := gi_f hI.1 h39 (Or.inr ⟨x75, e75, rfl⟩)
            refine lv_aload_n hx hb d_Mo_gather_83 rfl (lv_at hl 2 rfl) ?_
            refine va_get (C := R_Mo) (T := F_Mo) (N := 44) hx hb hts (fun w h => List.mem_cons_of_mem _ (hin_Mo w h)) hown hK hP 0 rfl rfl 38 (by decide) (hts _ (List.mem_cons_of_mem _ fl_Mo_217)) (fun _ h => h) rfl d_Mo_gather_84 ?_
            refine va_put (D := D) (v := .int (oI f1)) (ty := .int) (C := R_Mo) (T := F_Mo) (N := 44) hx hb hts (fun w h => List.mem_cons_of_mem _ (hin_Mo w h)) t_Mo t_Mo_ok n_Mo hown hK hP hD hS 0 rfl rfl 38 (by decide) (hts _ (List.mem_cons_of_mem _ fl_Mo_217)) (fun _ h => h) rfl (by decide +kernel) rfl rfl (Nat.le_of_ble_eq_true rfl) d_Mo_gather_87 (fun H locs hP hD hS => ?_)
            have hP : va_P D vwCl [(o, .inr (9, [(ϕ 0), (ϕ 1), (ϕ 2), (ϕ 3), (ϕ 4), (ϕ 5), (ϕ 6), (ϕ 7), (ϕ 8), (ϕ 9), (ϕ 10), .ref a_wArgument, (ϕ 12), (ϕ 13), .ref a_wOrder, .ref a_wDown, .ref a_wRange, .ref a_wLow, .ref a_wHigh, (ϕ 19), (ϕ 20), (ϕ 21), (ϕ 22), (ϕ 23), (ϕ 24), .ref a_value, .ref a_hole, (ϕ 27), (ϕ 28), .ref a_list, (ϕ 30), (ϕ 31), (ϕ 32), (ϕ 33), (ϕ 34), (ϕ 35), (ϕ 36), (ϕ 37), .int (oI f1), .int (oI l1), .int (nI c1), .int e1, .int g1, .long s1])), (a_wOrder, .inl (cI, 3, .inl (zO oo))), (a_wDown, .inl (cZ, 3, .inl (zZ wd))), (a_wRange, .inl (cZ, 3, .inl (zZ wg))), (a_wLow, .inl (cI, 3, .inl wl)), (a_wHigh, .inl (cI, 3, .inl wh)), (a_list, .inl (cI, 60, .inl (zN li))), (a_value, .inl (cI, 540, .inl vl)), (a_hole, .inl (cZ, 540, .inl (zZ hl_))), (a_wArgument, .inl (cI, 3, .inl (zN wa)))] H := hP
            have hD : va_D A [(o, .inr (9, [(ϕ 0), (ϕ 1), (ϕ 2), (ϕ 3), (ϕ 4), (ϕ 5), (ϕ 6), (ϕ 7), (ϕ 8), (ϕ 9), (ϕ 10), .ref a_wArgument, (ϕ 12), (ϕ 13), .ref a_wOrder, .ref a_wDown, .ref a_wRange, .ref a_wLow, .ref a_wHigh, (ϕ 19), (ϕ 20), (ϕ 21), (ϕ 22), (ϕ 23), (ϕ 24), .ref a_value, .ref a_hole, (ϕ 27), (ϕ 28), .ref a_list, (ϕ 30), (ϕ 31), (ϕ 32), (ϕ 33), (ϕ 34), (ϕ 35), (ϕ 36), (ϕ 37), .int (oI f1), .int (oI l1), .int (nI c1), .int e1, .int g1, .long s1])), (a_wOrder, .inl (cI, 3, .inl (zO oo))), (a_wDown, .inl (cZ, 3, .inl (zZ wd))), (a_wRange, .inl (cZ, 3, .inl (zZ wg))), (a_wLow, .inl (cI, 3, .inl wl)), (a_wHigh, .inl (cI, 3, .inl wh)), (a_list, .inl (cI, 60, .inl (zN li))), (a_value, .inl (cI, 540, .inl vl)), (a_hole, .inl (cZ, 540, .inl (zZ hl_))), (a_wArgument, .inl (cI, 3, .inl (zN wa)))] := hD
            exact lb90 f1 hz2 ls _ _ (lv_sub hl [2, 3, 4, 5, 6, 7, 1, 0] rfl) hP hD hS
          · skip
            have e75 := oI_no (fun q hq => by have hq2 := gFst_lt d (hI.1.symm.trans hq); omega) h75
            have hz2 : some (st + d) = gFst (inF (mOl hl_ vl li (oo w)) (wd w) (wg w) (wl w) (wh w) i) st (d + 1) := gi_f hI.1 h39 (Or.inl ⟨e75, rfl⟩)
            refine lv_iload hx hb d_Mo_gather_78 (lv_at hl 7 rfl) ?_
            refine zk_topi (show (nI (st + d)) = oI (some (st + d)) from rfl) ?_
            refine lv_goto (tgt := 87) hx hb d_Mo_gather_80 rfl ?_
            refine va_put (D := D) (v := .int (oI (some (st + d)))) (ty := .int) (C := R_Mo) (T := F_Mo) (N := 44) hx hb hts (fun w h => List.mem_cons_of_mem _ (hin_Mo w h)) t_Mo t_Mo_ok n_Mo hown hK hP hD hS 0 rfl rfl 38 (by decide) (hts _ (List.mem_cons_of_mem _ fl_Mo_217)) (fun _ h => h) rfl (by decide +kernel) rfl rfl (Nat.le_of_ble_eq_true rfl) d_Mo_gather_87 (fun H locs hP hD hS => ?_)
            have hP : va_P D vwCl [(o, .inr (9, [(ϕ 0), (ϕ 1), (ϕ 2), (ϕ 3), (ϕ 4), (ϕ 5), (ϕ 6), (ϕ 7), (ϕ 8), (ϕ 9), (ϕ 10), .ref a_wArgument, (ϕ 12), (ϕ 13), .ref a_wOrder, .ref a_wDown, .ref a_wRange, .ref a_wLow, .ref a_wHigh, (ϕ 19), (ϕ 20), (ϕ 21), (ϕ 22), (ϕ 23), (ϕ 24), .ref a_value, .ref a_hole, (ϕ 27), (ϕ 28), .ref a_list, (ϕ 30), (ϕ 31), (ϕ 32), (ϕ 33), (ϕ 34), (ϕ 35), (ϕ 36), (ϕ 37), .int (oI (some (st + d))), .int (oI l1), .int (nI c1), .int e1, .int g1, .long s1])), (a_wOrder, .inl (cI, 3, .inl (zO oo))), (a_wDown, .inl (cZ, 3, .inl (zZ wd))), (a_wRange, .inl (cZ, 3, .inl (zZ wg))), (a_wLow, .inl (cI, 3, .inl wl)), (a_wHigh, .inl (cI, 3, .inl wh)), (a_list, .inl (cI, 60, .inl (zN li))), (a_value, .inl (cI, 540, .inl vl)), (a_hole, .inl (cZ, 540, .inl (zZ hl_))), (a_wArgument, .inl (cI, 3, .inl (zN wa)))] H := hP
            have hD : va_D A [(o, .inr (9, [(ϕ 0), (ϕ 1), (ϕ 2), (ϕ 3), (ϕ 4), (ϕ 5), (ϕ 6), (ϕ 7), (ϕ 8), (ϕ 9), (ϕ 10), .ref a_wArgument, (ϕ 12), (ϕ 13), .ref a_wOrder, .ref a_wDown, .ref a_wRange, .ref a_wLow, .ref a_wHigh, (ϕ 19), (ϕ 20), (ϕ 21), (ϕ 22), (ϕ 23), (ϕ 24), .ref a_value, .ref a_hole, (ϕ 27), (ϕ 28), .ref a_list, (ϕ 30), (ϕ 31), (ϕ 32), (ϕ 33), (ϕ 34), (ϕ 35), (ϕ 36), (ϕ 37), .int (oI (some (st + d))), .int (oI l1), .int (nI c1), .int e1, .int g1, .long s1])), (a_wOrder, .inl (cI, 3, .inl (zO oo))), (a_wDown, .inl (cZ, 3, .inl (zZ wd))), (a_wRange, .inl (cZ, 3, .inl (zZ wg))), (a_wLow, .inl (cI, 3, .inl wl)), (a_wHigh, .inl (cI, 3, .inl wh)), (a_list, .inl (cI, 60, .inl (zN li))), (a_value, .inl (cI, 540, .inl vl)), (a_hole, .inl (cZ, 540, .inl (zZ hl_))), (a_wArgument, .inl (cI, 3, .inl (zN wa)))] := hD
            exact lb90 (some (st + d)) hz2 ls _ _ (lv_sub hl [2, 3, 4, 5, 6, 7, 1, 0] rfl) hP hD hS
  exact lb23 _ 0 none none 0 fe fg 0 hst gi_0 (Nat.lt_succ_self _) ls _ _ (lv_sub hl [1, 2, 3, 4, 5, 0] rfl) hP hD hS
