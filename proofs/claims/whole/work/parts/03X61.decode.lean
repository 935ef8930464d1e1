theorem dX6_cellOf_1 : decode cX6_cellOf 1 = .ok (.iconst 1, 1) := by decide +kernel
theorem dX6_cellOf_2 : decode cX6_cellOf 2 = .ok (.iload_n 1, 1) := by decide +kernel
theorem dX6_cellOf_3 : decode cX6_cellOf 3 = .ok (.invokevirtual 75, 3) := by decide +kernel
theorem dX6_cellOf_6 : decode cX6_cellOf 6 = .ok (.aload_n 0, 1) := by decide +kernel
theorem dX6_cellOf_7 : decode cX6_cellOf 7 = .ok (.getfield 31, 3) := by decide +kernel
theorem dX6_cellOf_10 : decode cX6_cellOf 10 = .ok (.idiv, 1) := by decide +kernel
theorem dX6_cellOf_11 : decode cX6_cellOf 11 = .ok (.ireturn, 1) := by decide +kernel
theorem dX6_stepBy_0 : decode cX6_stepBy 0 = .ok (.aload_n 0, 1) := by decide +kernel
theorem dX6_stepBy_1 : decode cX6_stepBy 1 = .ok (.getfield 28, 3) := by decide +kernel
theorem dX6_stepBy_4 : decode cX6_stepBy 4 = .ok (.iconst 3, 1) := by decide +kernel
theorem dX6_stepBy_5 : decode cX6_stepBy 5 = .ok (.iload_n 1, 1) := by decide +kernel
theorem dX6_stepBy_6 : decode cX6_stepBy 6 = .ok (.imul, 1) := by decide +kernel
theorem dX6_stepBy_7 : decode cX6_stepBy 7 = .ok (.iaload, 1) := by decide +kernel
theorem dX6_stepBy_8 : decode cX6_stepBy 8 = .ok (.aload_n 0, 1) := by decide +kernel
theorem dX6_stepBy_9 : decode cX6_stepBy 9 = .ok (.getfield 13, 3) := by decide +kernel
theorem dX6_stepBy_12 : decode cX6_stepBy 12 = .ok (.iconst 3, 1) := by decide +kernel
theorem dX6_stepBy_13 : decode cX6_stepBy 13 = .ok (.iload_n 2, 1) := by decide +kernel
theorem dX6_stepBy_14 : decode cX6_stepBy 14 = .ok (.imul, 1) := by decide +kernel
theorem dX6_stepBy_15 : decode cX6_stepBy 15 = .ok (.iaload, 1) := by decide +kernel
theorem dX6_stepBy_16 : decode cX6_stepBy 16 = .ok (.imul, 1) := by decide +kernel
theorem dX6_stepBy_17 : decode cX6_stepBy 17 = .ok (.aload_n 0, 1) := by decide +kernel
theorem dX6_stepBy_18 : decode cX6_stepBy 18 = .ok (.getfield 28, 3) := by decide +kernel
theorem dX6_stepBy_21 : decode cX6_stepBy 21 = .ok (.iconst 3, 1) := by decide +kernel
theorem dX6_stepBy_22 : decode cX6_stepBy 22 = .ok (.iload_n 1, 1) := by decide +kernel
theorem dX6_stepBy_23 : decode cX6_stepBy 23 = .ok (.imul, 1) := by decide +kernel
theorem dX6_stepBy_24 : decode cX6_stepBy 24 = .ok (.iconst 1, 1) := by decide +kernel
theorem dX6_stepBy_25 : decode cX6_stepBy 25 = .ok (.iadd, 1) := by decide +kernel
theorem dX6_stepBy_26 : decode cX6_stepBy 26 = .ok (.iaload, 1) := by decide +kernel
theorem dX6_stepBy_27 : decode cX6_stepBy 27 = .ok (.aload_n 0, 1) := by decide +kernel
theorem dX6_stepBy_28 : decode cX6_stepBy 28 = .ok (.getfield 13, 3) := by decide +kernel
theorem dX6_stepBy_31 : decode cX6_stepBy 31 = .ok (.iconst 3, 1) := by decide +kernel
theorem dX6_stepBy_32 : decode cX6_stepBy 32 = .ok (.iload_n 2, 1) := by decide +kernel
theorem dX6_stepBy_33 : decode cX6_stepBy 33 = .ok (.imul, 1) := by decide +kernel
theorem dX6_stepBy_34 : decode cX6_stepBy 34 = .ok (.iconst 1, 1) := by decide +kernel
theorem dX6_stepBy_35 : decode cX6_stepBy 35 = .ok (.iadd, 1) := by decide +kernel
theorem dX6_stepBy_36 : decode cX6_stepBy 36 = .ok (.iaload, 1) := by decide +kernel
theorem dX6_stepBy_37 : decode cX6_stepBy 37 = .ok (.imul, 1) := by decide +kernel
theorem dX6_stepBy_38 : decode cX6_stepBy 38 = .ok (.iadd, 1) := by decide +kernel
theorem dX6_stepBy_39 : decode cX6_stepBy 39 = .ok (.aload_n 0, 1) := by decide +kernel
theorem dX6_stepBy_40 : decode cX6_stepBy 40 = .ok (.getfield 28, 3) := by decide +kernel
theorem dX6_stepBy_43 : decode cX6_stepBy 43 = .ok (.iconst 3, 1) := by decide +kernel
theorem dX6_stepBy_44 : decode cX6_stepBy 44 = .ok (.iload_n 1, 1) := by decide +kernel
theorem dX6_stepBy_45 : decode cX6_stepBy 45 = .ok (.imul, 1) := by decide +kernel
theorem dX6_stepBy_46 : decode cX6_stepBy 46 = .ok (.iconst 2, 1) := by decide +kernel
theorem dX6_stepBy_47 : decode cX6_stepBy 47 = .ok (.iadd, 1) := by decide +kernel
theorem dX6_stepBy_48 : decode cX6_stepBy 48 = .ok (.iaload, 1) := by decide +kernel
theorem dX6_stepBy_49 : decode cX6_stepBy 49 = .ok (.aload_n 0, 1) := by decide +kernel
theorem dX6_stepBy_50 : decode cX6_stepBy 50 = .ok (.getfield 13, 3) := by decide +kernel
theorem dX6_stepBy_53 : decode cX6_stepBy 53 = .ok (.iconst 3, 1) := by decide +kernel
theorem dX6_stepBy_54 : decode cX6_stepBy 54 = .ok (.iload_n 2, 1) := by decide +kernel
theorem dX6_stepBy_55 : decode cX6_stepBy 55 = .ok (.imul, 1) := by decide +kernel
theorem dX6_stepBy_56 : decode cX6_stepBy 56 = .ok (.iconst 2, 1) := by decide +kernel
theorem dX6_stepBy_57 : decode cX6_stepBy 57 = .ok (.iadd, 1) := by decide +kernel
theorem dX6_stepBy_58 : decode cX6_stepBy 58 = .ok (.iaload, 1) := by decide +kernel
theorem dX6_stepBy_59 : decode cX6_stepBy 59 = .ok (.imul, 1) := by decide +kernel
theorem dX6_stepBy_60 : decode cX6_stepBy 60 = .ok (.iadd, 1) := by decide +kernel
theorem dX6_stepBy_61 : decode cX6_stepBy 61 = .ok (.ireturn, 1) := by decide +kernel
theorem dX6_delayOf_0 : decode cX6_delayOf 0 = .ok (.aload_n 0, 1) := by decide +kernel
theorem dX6_delayOf_1 : decode cX6_delayOf 1 = .ok (.iconst 0, 1) := by decide +kernel
theorem dX6_delayOf_2 : decode cX6_delayOf 2 = .ok (.iload_n 1, 1) := by decide +kernel
theorem dX6_delayOf_3 : decode cX6_delayOf 3 = .ok (.invokevirtual 79, 3) := by decide +kernel
theorem dX6_delayOf_6 : decode cX6_delayOf 6 = .ok (.ireturn, 1) := by decide +kernel
theorem dX6_wayOf_0 : decode cX6_wayOf 0 = .ok (.aload_n 0, 1) := by decide +kernel
theorem dX6_wayOf_1 : decode cX6_wayOf 1 = .ok (.iconst 1, 1) := by decide +kernel
theorem dX6_wayOf_2 : decode cX6_wayOf 2 = .ok (.iload_n 1, 1) := by decide +kernel
theorem dX6_wayOf_3 : decode cX6_wayOf 3 = .ok (.invokevirtual 79, 3) := by decide +kernel
theorem dX6_wayOf_6 : decode cX6_wayOf 6 = .ok (.invokestatic 82, 3) := by decide +kernel
theorem dX6_wayOf_9 : decode cX6_wayOf 9 = .ok (.aload_n 0, 1) := by decide +kernel
theorem dX6_wayOf_10 : decode cX6_wayOf 10 = .ok (.iconst 2, 1) := by decide +kernel
theorem dX6_wayOf_11 : decode cX6_wayOf 11 = .ok (.iload_n 1, 1) := by decide +kernel
theorem dX6_wayOf_12 : decode cX6_wayOf 12 = .ok (.invokevirtual 79, 3) := by decide +kernel
theorem dX6_wayOf_15 : decode cX6_wayOf 15 = .ok (.invokestatic 82, 3) := by decide +kernel
theorem dX6_wayOf_18 : decode cX6_wayOf 18 = .ok (.iadd, 1) := by decide +kernel
theorem dX6_wayOf_19 : decode cX6_wayOf 19 = .ok (.ireturn, 1) := by decide +kernel
theorem dX6_isNeeded_0 : decode cX6_isNeeded 0 = .ok (.aload_n 0, 1) := by decide +kernel
theorem dX6_isNeeded_1 : decode cX6_isNeeded 1 = .ok (.getfield 13, 3) := by decide +kernel
theorem dX6_isNeeded_4 : decode cX6_isNeeded 4 = .ok (.iconst 3, 1) := by decide +kernel
theorem dX6_isNeeded_5 : decode cX6_isNeeded 5 = .ok (.iload_n 1, 1) := by decide +kernel
theorem dX6_isNeeded_6 : decode cX6_isNeeded 6 = .ok (.imul, 1) := by decide +kernel
theorem dX6_isNeeded_7 : decode cX6_isNeeded 7 = .ok (.iaload, 1) := by decide +kernel
theorem dX6_isNeeded_8 : decode cX6_isNeeded 8 = .ok (.invokestatic 82, 3) := by decide +kernel
theorem dX6_isNeeded_11 : decode cX6_isNeeded 11 = .ok (.aload_n 0, 1) := by decide +kernel
theorem dX6_isNeeded_12 : decode cX6_isNeeded 12 = .ok (.getfield 7, 3) := by decide +kernel
theorem dX6_isNeeded_15 : decode cX6_isNeeded 15 = .ok (.iconst 0, 1) := by decide +kernel
theorem dX6_isNeeded_16 : decode cX6_isNeeded 16 = .ok (.iaload, 1) := by decide +kernel
theorem dX6_isNeeded_17 : decode cX6_isNeeded 17 = .ok (.if_icmp .ge 51, 3) := by decide +kernel
theorem dX6_isNeeded_20 : decode cX6_isNeeded 20 = .ok (.aload_n 0, 1) := by decide +kernel
theorem dX6_isNeeded_21 : decode cX6_isNeeded 21 = .ok (.getfield 13, 3) := by decide +kernel
theorem dX6_isNeeded_24 : decode cX6_isNeeded 24 = .ok (.iconst 3, 1) := by decide +kernel
theorem dX6_isNeeded_25 : decode cX6_isNeeded 25 = .ok (.iload_n 1, 1) := by decide +kernel
theorem dX6_isNeeded_26 : decode cX6_isNeeded 26 = .ok (.imul, 1) := by decide +kernel
theorem dX6_isNeeded_27 : decode cX6_isNeeded 27 = .ok (.iconst 1, 1) := by decide +kernel
theorem dX6_isNeeded_28 : decode cX6_isNeeded 28 = .ok (.iadd, 1) := by decide +kernel
theorem dX6_isNeeded_29 : decode cX6_isNeeded 29 = .ok (.iaload, 1) := by decide +kernel
theorem dX6_isNeeded_30 : decode cX6_isNeeded 30 = .ok (.invokestatic 82, 3) := by decide +kernel
theorem dX6_isNeeded_33 : decode cX6_isNeeded 33 = .ok (.aload_n 0, 1) := by decide +kernel
theorem dX6_isNeeded_34 : decode cX6_isNeeded 34 = .ok (.getfield 7, 3) := by decide +kernel
theorem dX6_isNeeded_37 : decode cX6_isNeeded 37 = .ok (.iconst 1, 1) := by decide +kernel
theorem dX6_isNeeded_38 : decode cX6_isNeeded 38 = .ok (.iaload, 1) := by decide +kernel
theorem dX6_isNeeded_39 : decode cX6_isNeeded 39 = .ok (.if_icmp .ge 29, 3) := by decide +kernel
theorem dX6_isNeeded_42 : decode cX6_isNeeded 42 = .ok (.aload_n 0, 1) := by decide +kernel
theorem dX6_isNeeded_43 : decode cX6_isNeeded 43 = .ok (.getfield 13, 3) := by decide +kernel
theorem dX6_isNeeded_46 : decode cX6_isNeeded 46 = .ok (.iconst 3, 1) := by decide +kernel
theorem dX6_isNeeded_47 : decode cX6_isNeeded 47 = .ok (.iload_n 1, 1) := by decide +kernel
theorem dX6_isNeeded_48 : decode cX6_isNeeded 48 = .ok (.imul, 1) := by decide +kernel
theorem dX6_isNeeded_49 : decode cX6_isNeeded 49 = .ok (.iconst 2, 1) := by decide +kernel
theorem dX6_isNeeded_50 : decode cX6_isNeeded 50 = .ok (.iadd, 1) := by decide +kernel
theorem dX6_isNeeded_51 : decode cX6_isNeeded 51 = .ok (.iaload, 1) := by decide +kernel
theorem dX6_isNeeded_52 : decode cX6_isNeeded 52 = .ok (.invokestatic 82, 3) := by decide +kernel
theorem dX6_isNeeded_55 : decode cX6_isNeeded 55 = .ok (.aload_n 0, 1) := by decide +kernel
theorem dX6_isNeeded_56 : decode cX6_isNeeded 56 = .ok (.getfield 7, 3) := by decide +kernel
theorem dX6_isNeeded_59 : decode cX6_isNeeded 59 = .ok (.iconst 2, 1) := by decide +kernel
theorem dX6_isNeeded_60 : decode cX6_isNeeded 60 = .ok (.iaload, 1) := by decide +kernel
theorem dX6_isNeeded_61 : decode cX6_isNeeded 61 = .ok (.if_icmp .ge 7, 3) := by decide +kernel
theorem dX6_isNeeded_64 : decode cX6_isNeeded 64 = .ok (.iconst 1, 1) := by decide +kernel
theorem dX6_isNeeded_65 : decode cX6_isNeeded 65 = .ok (.goto 4, 3) := by decide +kernel
theorem dX6_isNeeded_68 : decode cX6_isNeeded 68 = .ok (.iconst 0, 1) := by decide +kernel
theorem dX6_isNeeded_69 : decode cX6_isNeeded 69 = .ok (.ireturn, 1) := by decide +kernel
theorem dX6_meets_0 : decode cX6_meets 0 = .ok (.iconst 0, 1) := by decide +kernel
theorem dX6_meets_1 : decode cX6_meets 1 = .ok (.istore_n 1, 1) := by decide +kernel
theorem dX6_meets_2 : decode cX6_meets 2 = .ok (.iload_n 1, 1) := by decide +kernel
theorem dX6_meets_3 : decode cX6_meets 3 = .ok (.aload_n 0, 1) := by decide +kernel
theorem dX6_meets_4 : decode cX6_meets 4 = .ok (.getfield 7, 3) := by decide +kernel
theorem dX6_meets_7 : decode cX6_meets 7 = .ok (.iconst 0, 1) := by decide +kernel
theorem dX6_meets_8 : decode cX6_meets 8 = .ok (.iaload, 1) := by decide +kernel
theorem dX6_meets_9 : decode cX6_meets 9 = .ok (.if_icmp .ge 154, 3) := by decide +kernel
theorem dX6_meets_12 : decode cX6_meets 12 = .ok (.iconst 1, 1) := by decide +kernel
theorem dX6_meets_13 : decode cX6_meets 13 = .ok (.aload_n 0, 1) := by decide +kernel
theorem dX6_meets_14 : decode cX6_meets 14 = .ok (.getfield 7, 3) := by decide +kernel
theorem dX6_meets_17 : decode cX6_meets 17 = .ok (.iconst 1, 1) := by decide +kernel
theorem dX6_meets_18 : decode cX6_meets 18 = .ok (.iaload, 1) := by decide +kernel
theorem dX6_meets_19 : decode cX6_meets 19 = .ok (.isub, 1) := by decide +kernel
theorem dX6_meets_20 : decode cX6_meets 20 = .ok (.istore_n 2, 1) := by decide +kernel
theorem dX6_meets_21 : decode cX6_meets 21 = .ok (.iload_n 2, 1) := by decide +kernel
theorem dX6_meets_22 : decode cX6_meets 22 = .ok (.aload_n 0, 1) := by decide +kernel
theorem dX6_meets_23 : decode cX6_meets 23 = .ok (.getfield 7, 3) := by decide +kernel
theorem dX6_meets_26 : decode cX6_meets 26 = .ok (.iconst 1, 1) := by decide +kernel
theorem dX6_meets_27 : decode cX6_meets 27 = .ok (.iaload, 1) := by decide +kernel
theorem dX6_meets_28 : decode cX6_meets 28 = .ok (.if_icmp .ge 129, 3) := by decide +kernel
theorem dX6_meets_31 : decode cX6_meets 31 = .ok (.iconst 1, 1) := by decide +kernel
theorem dX6_meets_32 : decode cX6_meets 32 = .ok (.aload_n 0, 1) := by decide +kernel
theorem dX6_meets_33 : decode cX6_meets 33 = .ok (.getfield 7, 3) := by decide +kernel
theorem dX6_meets_36 : decode cX6_meets 36 = .ok (.iconst 2, 1) := by decide +kernel
theorem dX6_meets_37 : decode cX6_meets 37 = .ok (.iaload, 1) := by decide +kernel
theorem dX6_meets_38 : decode cX6_meets 38 = .ok (.isub, 1) := by decide +kernel
theorem dX6_meets_39 : decode cX6_meets 39 = .ok (.istore_n 3, 1) := by decide +kernel
theorem dX6_meets_40 : decode cX6_meets 40 = .ok (.iload_n 3, 1) := by decide +kernel
theorem dX6_meets_41 : decode cX6_meets 41 = .ok (.aload_n 0, 1) := by decide +kernel
theorem dX6_meets_42 : decode cX6_meets 42 = .ok (.getfield 7, 3) := by decide +kernel
theorem dX6_meets_45 : decode cX6_meets 45 = .ok (.iconst 2, 1) := by decide +kernel
theorem dX6_meets_46 : decode cX6_meets 46 = .ok (.iaload, 1) := by decide +kernel
theorem dX6_meets_47 : decode cX6_meets 47 = .ok (.if_icmp .ge 104, 3) := by decide +kernel
theorem dX6_meets_50 : decode cX6_meets 50 = .ok (.iload_n 1, 1) := by decide +kernel
theorem dX6_meets_51 : decode cX6_meets 51 = .ok (.ifCond .ne 11, 3) := by decide +kernel
theorem dX6_meets_54 : decode cX6_meets 54 = .ok (.iload_n 2, 1) := by decide +kernel
theorem dX6_meets_55 : decode cX6_meets 55 = .ok (.ifCond .ne 7, 3) := by decide +kernel
theorem dX6_meets_58 : decode cX6_meets 58 = .ok (.iload_n 3, 1) := by decide +kernel
theorem dX6_meets_59 : decode cX6_meets 59 = .ok (.ifCond .eq 7, 3) := by decide +kernel
theorem dX6_meets_62 : decode cX6_meets 62 = .ok (.iconst 1, 1) := by decide +kernel
theorem dX6_meets_63 : decode cX6_meets 63 = .ok (.goto 4, 3) := by decide +kernel
theorem dX6_meets_66 : decode cX6_meets 66 = .ok (.iconst 0, 1) := by decide +kernel
theorem dX6_meets_67 : decode cX6_meets 67 = .ok (.istore 4, 2) := by decide +kernel
theorem dX6_meets_69 : decode cX6_meets 69 = .ok (.iconst 0, 1) := by decide +kernel
theorem dX6_meets_70 : decode cX6_meets 70 = .ok (.istore 5, 2) := by decide +kernel
theorem dX6_meets_72 : decode cX6_meets 72 = .ok (.iload 5, 2) := by decide +kernel
theorem dX6_meets_74 : decode cX6_meets 74 = .ok (.iconst 3, 1) := by decide +kernel
theorem dX6_meets_75 : decode cX6_meets 75 = .ok (.if_icmp .ge 63, 3) := by decide +kernel
theorem dX6_meets_78 : decode cX6_meets 78 = .ok (.iload 4, 2) := by decide +kernel
theorem dX6_meets_80 : decode cX6_meets 80 = .ok (.ifCond .eq 58, 3) := by decide +kernel
theorem dX6_meets_83 : decode cX6_meets 83 = .ok (.aload_n 0, 1) := by decide +kernel
theorem dX6_meets_84 : decode cX6_meets 84 = .ok (.getfield 28, 3) := by decide +kernel
theorem dX6_meets_87 : decode cX6_meets 87 = .ok (.iconst 3, 1) := by decide +kernel
theorem dX6_meets_88 : decode cX6_meets 88 = .ok (.iload 5, 2) := by decide +kernel
theorem dX6_meets_90 : decode cX6_meets 90 = .ok (.imul, 1) := by decide +kernel
theorem dX6_meets_91 : decode cX6_meets 91 = .ok (.iaload, 1) := by decide +kernel
theorem dX6_meets_92 : decode cX6_meets 92 = .ok (.iload_n 1, 1) := by decide +kernel
theorem dX6_meets_93 : decode cX6_meets 93 = .ok (.imul, 1) := by decide +kernel
theorem dX6_meets_94 : decode cX6_meets 94 = .ok (.aload_n 0, 1) := by decide +kernel
theorem dX6_meets_95 : decode cX6_meets 95 = .ok (.getfield 28, 3) := by decide +kernel
theorem dX6_meets_98 : decode cX6_meets 98 = .ok (.iconst 3, 1) := by decide +kernel
theorem dX6_meets_99 : decode cX6_meets 99 = .ok (.iload 5, 2) := by decide +kernel
theorem dX6_meets_101 : decode cX6_meets 101 = .ok (.imul, 1) := by decide +kernel
theorem dX6_meets_102 : decode cX6_meets 102 = .ok (.iconst 1, 1) := by decide +kernel
theorem dX6_meets_103 : decode cX6_meets 103 = .ok (.iadd, 1) := by decide +kernel
theorem dX6_meets_104 : decode cX6_meets 104 = .ok (.iaload, 1) := by decide +kernel
theorem dX6_meets_105 : decode cX6_meets 105 = .ok (.iload_n 2, 1) := by decide +kernel
theorem dX6_meets_106 : decode cX6_meets 106 = .ok (.imul, 1) := by decide +kernel
theorem dX6_meets_107 : decode cX6_meets 107 = .ok (.iadd, 1) := by decide +kernel
theorem dX6_meets_108 : decode cX6_meets 108 = .ok (.aload_n 0, 1) := by decide +kernel
theorem dX6_meets_109 : decode cX6_meets 109 = .ok (.getfield 28, 3) := by decide +kernel
theorem dX6_meets_112 : decode cX6_meets 112 = .ok (.iconst 3, 1) := by decide +kernel
theorem dX6_meets_113 : decode cX6_meets 113 = .ok (.iload 5, 2) := by decide +kernel
theorem dX6_meets_115 : decode cX6_meets 115 = .ok (.imul, 1) := by decide +kernel
theorem dX6_meets_116 : decode cX6_meets 116 = .ok (.iconst 2, 1) := by decide +kernel
theorem dX6_meets_117 : decode cX6_meets 117 = .ok (.iadd, 1) := by decide +kernel
theorem dX6_meets_118 : decode cX6_meets 118 = .ok (.iaload, 1) := by decide +kernel
theorem dX6_meets_119 : decode cX6_meets 119 = .ok (.iload_n 3, 1) := by decide +kernel
theorem dX6_meets_120 : decode cX6_meets 120 = .ok (.imul, 1) := by decide +kernel
theorem dX6_meets_121 : decode cX6_meets 121 = .ok (.iadd, 1) := by decide +kernel
theorem dX6_meets_122 : decode cX6_meets 122 = .ok (.ifCond .ne 7, 3) := by decide +kernel
theorem dX6_meets_125 : decode cX6_meets 125 = .ok (.iconst 1, 1) := by decide +kernel
theorem dX6_meets_126 : decode cX6_meets 126 = .ok (.goto 4, 3) := by decide +kernel
theorem dX6_meets_129 : decode cX6_meets 129 = .ok (.iconst 0, 1) := by decide +kernel
theorem dX6_meets_130 : decode cX6_meets 130 = .ok (.istore 4, 2) := by decide +kernel
theorem dX6_meets_132 : decode cX6_meets 132 = .ok (.iinc 5 1, 3) := by decide +kernel
theorem dX6_meets_135 : decode cX6_meets 135 = .ok (.goto (-63), 3) := by decide +kernel
theorem dX6_meets_138 : decode cX6_meets 138 = .ok (.iload 4, 2) := by decide +kernel
theorem dX6_meets_140 : decode cX6_meets 140 = .ok (.ifCond .eq 5, 3) := by decide +kernel
theorem dX6_meets_143 : decode cX6_meets 143 = .ok (.iconst 1, 1) := by decide +kernel
theorem dX6_meets_144 : decode cX6_meets 144 = .ok (.ireturn, 1) := by decide +kernel
theorem dX6_meets_145 : decode cX6_meets 145 = .ok (.iinc 3 1, 3) := by decide +kernel
theorem dX6_meets_148 : decode cX6_meets 148 = .ok (.goto (-108), 3) := by decide +kernel
theorem dX6_meets_151 : decode cX6_meets 151 = .ok (.iinc 2 1, 3) := by decide +kernel
theorem dX6_meets_154 : decode cX6_meets 154 = .ok (.goto (-133), 3) := by decide +kernel
theorem dX6_meets_157 : decode cX6_meets 157 = .ok (.iinc 1 1, 3) := by decide +kernel
theorem dX6_meets_160 : decode cX6_meets 160 = .ok (.goto (-158), 3) := by decide +kernel
theorem dX6_meets_163 : decode cX6_meets 163 = .ok (.iconst 0, 1) := by decide +kernel
theorem dX6_meets_164 : decode cX6_meets 164 = .ok (.ireturn, 1) := by decide +kernel
theorem dX6_wrongDelay_0 : decode cX6_wrongDelay 0 = .ok (.iconst (-1), 1) := by decide +kernel
theorem dX6_wrongDelay_1 : decode cX6_wrongDelay 1 = .ok (.istore_n 1, 1) := by decide +kernel
theorem dX6_wrongDelay_2 : decode cX6_wrongDelay 2 = .ok (.aload_n 0, 1) := by decide +kernel
theorem dX6_wrongDelay_3 : decode cX6_wrongDelay 3 = .ok (.getfield 58, 3) := by decide +kernel
theorem dX6_wrongDelay_6 : decode cX6_wrongDelay 6 = .ok (.iconst 1, 1) := by decide +kernel
theorem dX6_wrongDelay_7 : decode cX6_wrongDelay 7 = .ok (.isub, 1) := by decide +kernel
theorem dX6_wrongDelay_8 : decode cX6_wrongDelay 8 = .ok (.istore_n 2, 1) := by decide +kernel
theorem dX6_wrongDelay_9 : decode cX6_wrongDelay 9 = .ok (.iload_n 2, 1) := by decide +kernel
theorem dX6_wrongDelay_10 : decode cX6_wrongDelay 10 = .ok (.ifCond .lt 32, 3) := by decide +kernel
theorem dX6_wrongDelay_13 : decode cX6_wrongDelay 13 = .ok (.aload_n 0, 1) := by decide +kernel
theorem dX6_wrongDelay_14 : decode cX6_wrongDelay 14 = .ok (.iload_n 2, 1) := by decide +kernel
theorem dX6_wrongDelay_15 : decode cX6_wrongDelay 15 = .ok (.invokevirtual 86, 3) := by decide +kernel
theorem dX6_wrongDelay_18 : decode cX6_wrongDelay 18 = .ok (.ifCond .eq 16, 3) := by decide +kernel
theorem dX6_wrongDelay_21 : decode cX6_wrongDelay 21 = .ok (.aload_n 0, 1) := by decide +kernel
theorem dX6_wrongDelay_22 : decode cX6_wrongDelay 22 = .ok (.iload_n 2, 1) := by decide +kernel
theorem dX6_wrongDelay_23 : decode cX6_wrongDelay 23 = .ok (.invokevirtual 89, 3) := by decide +kernel
theorem dX6_wrongDelay_26 : decode cX6_wrongDelay 26 = .ok (.iconst 1, 1) := by decide +kernel
theorem dX6_wrongDelay_27 : decode cX6_wrongDelay 27 = .ok (.if_icmp .ge 7, 3) := by decide +kernel
theorem dX6_wrongDelay_30 : decode cX6_wrongDelay 30 = .ok (.iload_n 2, 1) := by decide +kernel
theorem dX6_wrongDelay_31 : decode cX6_wrongDelay 31 = .ok (.goto 4, 3) := by decide +kernel
theorem dX6_wrongDelay_34 : decode cX6_wrongDelay 34 = .ok (.iload_n 1, 1) := by decide +kernel
theorem dX6_wrongDelay_35 : decode cX6_wrongDelay 35 = .ok (.istore_n 1, 1) := by decide +kernel
theorem dX6_wrongDelay_36 : decode cX6_wrongDelay 36 = .ok (.iinc 2 (-1), 3) := by decide +kernel
theorem dX6_wrongDelay_39 : decode cX6_wrongDelay 39 = .ok (.goto (-30), 3) := by decide +kernel
theorem dX6_wrongDelay_42 : decode cX6_wrongDelay 42 = .ok (.iload_n 1, 1) := by decide +kernel
theorem dX6_wrongDelay_43 : decode cX6_wrongDelay 43 = .ok (.ireturn, 1) := by decide +kernel
theorem dX6_wrongWay_0 : decode cX6_wrongWay 0 = .ok (.iconst (-1), 1) := by decide +kernel
theorem dX6_wrongWay_1 : decode cX6_wrongWay 1 = .ok (.istore_n 1, 1) := by decide +kernel
theorem dX6_wrongWay_2 : decode cX6_wrongWay 2 = .ok (.aload_n 0, 1) := by decide +kernel
theorem dX6_wrongWay_3 : decode cX6_wrongWay 3 = .ok (.getfield 58, 3) := by decide +kernel
theorem dX6_wrongWay_6 : decode cX6_wrongWay 6 = .ok (.iconst 1, 1) := by decide +kernel
theorem dX6_wrongWay_7 : decode cX6_wrongWay 7 = .ok (.isub, 1) := by decide +kernel
theorem dX6_wrongWay_8 : decode cX6_wrongWay 8 = .ok (.istore_n 2, 1) := by decide +kernel
theorem dX6_wrongWay_9 : decode cX6_wrongWay 9 = .ok (.iload_n 2, 1) := by decide +kernel
theorem dX6_wrongWay_10 : decode cX6_wrongWay 10 = .ok (.ifCond .lt 36, 3) := by decide +kernel
theorem dX6_wrongWay_13 : decode cX6_wrongWay 13 = .ok (.aload_n 0, 1) := by decide +kernel
theorem dX6_wrongWay_14 : decode cX6_wrongWay 14 = .ok (.iload_n 2, 1) := by decide +kernel
theorem dX6_wrongWay_15 : decode cX6_wrongWay 15 = .ok (.invokevirtual 86, 3) := by decide +kernel
theorem dX6_wrongWay_18 : decode cX6_wrongWay 18 = .ok (.ifCond .eq 20, 3) := by decide +kernel
theorem dX6_wrongWay_21 : decode cX6_wrongWay 21 = .ok (.aload_n 0, 1) := by decide +kernel
theorem dX6_wrongWay_22 : decode cX6_wrongWay 22 = .ok (.iload_n 2, 1) := by decide +kernel
theorem dX6_wrongWay_23 : decode cX6_wrongWay 23 = .ok (.invokevirtual 92, 3) := by decide +kernel
theorem dX6_wrongWay_26 : decode cX6_wrongWay 26 = .ok (.aload_n 0, 1) := by decide +kernel
theorem dX6_wrongWay_27 : decode cX6_wrongWay 27 = .ok (.iload_n 2, 1) := by decide +kernel
theorem dX6_wrongWay_28 : decode cX6_wrongWay 28 = .ok (.invokevirtual 89, 3) := by decide +kernel
theorem dX6_wrongWay_31 : decode cX6_wrongWay 31 = .ok (.if_icmp .le 7, 3) := by decide +kernel
theorem dX6_wrongWay_34 : decode cX6_wrongWay 34 = .ok (.iload_n 2, 1) := by decide +kernel
theorem dX6_wrongWay_35 : decode cX6_wrongWay 35 = .ok (.goto 4, 3) := by decide +kernel
theorem dX6_wrongWay_38 : decode cX6_wrongWay 38 = .ok (.iload_n 1, 1) := by decide +kernel
theorem dX6_wrongWay_39 : decode cX6_wrongWay 39 = .ok (.istore_n 1, 1) := by decide +kernel
theorem dX6_wrongWay_40 : decode cX6_wrongWay 40 = .ok (.iinc 2 (-1), 3) := by decide +kernel
theorem dX6_wrongWay_43 : decode cX6_wrongWay 43 = .ok (.goto (-34), 3) := by decide +kernel
theorem dX6_wrongWay_46 : decode cX6_wrongWay 46 = .ok (.iload_n 1, 1) := by decide +kernel
theorem dX6_wrongWay_47 : decode cX6_wrongWay 47 = .ok (.ireturn, 1) := by decide +kernel
theorem dX6_isRight_0 : decode cX6_isRight 0 = .ok (.aload_n 0, 1) := by decide +kernel
theorem dX6_isRight_1 : decode cX6_isRight 1 = .ok (.invokevirtual 95, 3) := by decide +kernel
theorem dX6_isRight_4 : decode cX6_isRight 4 = .ok (.ifCond .ge 21, 3) := by decide +kernel
theorem dX6_isRight_7 : decode cX6_isRight 7 = .ok (.aload_n 0, 1) := by decide +kernel
theorem dX6_isRight_8 : decode cX6_isRight 8 = .ok (.invokevirtual 99, 3) := by decide +kernel
theorem dX6_isRight_11 : decode cX6_isRight 11 = .ok (.ifCond .ge 14, 3) := by decide +kernel
theorem dX6_isRight_14 : decode cX6_isRight 14 = .ok (.aload_n 0, 1) := by decide +kernel
theorem dX6_isRight_15 : decode cX6_isRight 15 = .ok (.invokevirtual 102, 3) := by decide +kernel
theorem dX6_isRight_18 : decode cX6_isRight 18 = .ok (.ifCond .ne 7, 3) := by decide +kernel
theorem dX6_isRight_21 : decode cX6_isRight 21 = .ok (.iconst 1, 1) := by decide +kernel
theorem dX6_isRight_22 : decode cX6_isRight 22 = .ok (.goto 4, 3) := by decide +kernel
theorem dX6_isRight_25 : decode cX6_isRight 25 = .ok (.iconst 0, 1) := by decide +kernel
theorem dX6_isRight_26 : decode cX6_isRight 26 = .ok (.ireturn, 1) := by decide +kernel
theorem dX6_sameAs_0 : decode cX6_sameAs 0 = .ok (.iconst 0, 1) := by decide +kernel
theorem dX6_sameAs_1 : decode cX6_sameAs 1 = .ok (.istore_n 2, 1) := by decide +kernel
theorem dX6_sameAs_2 : decode cX6_sameAs 2 = .ok (.iload_n 2, 1) := by decide +kernel
theorem dX6_sameAs_3 : decode cX6_sameAs 3 = .ok (.iload_n 1, 1) := by decide +kernel
theorem dX6_sameAs_4 : decode cX6_sameAs 4 = .ok (.if_icmp .ge 64, 3) := by decide +kernel
theorem dX6_sameAs_7 : decode cX6_sameAs 7 = .ok (.aload_n 0, 1) := by decide +kernel
theorem dX6_sameAs_8 : decode cX6_sameAs 8 = .ok (.iload_n 2, 1) := by decide +kernel
theorem dX6_sameAs_9 : decode cX6_sameAs 9 = .ok (.invokevirtual 106, 3) := by decide +kernel
theorem dX6_sameAs_12 : decode cX6_sameAs 12 = .ok (.ifCond .eq 50, 3) := by decide +kernel
theorem dX6_sameAs_15 : decode cX6_sameAs 15 = .ok (.aload_n 0, 1) := by decide +kernel
theorem dX6_sameAs_16 : decode cX6_sameAs 16 = .ok (.iconst 0, 1) := by decide +kernel
theorem dX6_sameAs_17 : decode cX6_sameAs 17 = .ok (.iload_n 2, 1) := by decide +kernel
theorem dX6_sameAs_18 : decode cX6_sameAs 18 = .ok (.invokevirtual 75, 3) := by decide +kernel
theorem dX6_sameAs_21 : decode cX6_sameAs 21 = .ok (.aload_n 0, 1) := by decide +kernel
theorem dX6_sameAs_22 : decode cX6_sameAs 22 = .ok (.iconst 0, 1) := by decide +kernel
theorem dX6_sameAs_23 : decode cX6_sameAs 23 = .ok (.iload_n 1, 1) := by decide +kernel
theorem dX6_sameAs_24 : decode cX6_sameAs 24 = .ok (.invokevirtual 75, 3) := by decide +kernel
theorem dX6_sameAs_27 : decode cX6_sameAs 27 = .ok (.if_icmp .ne 35, 3) := by decide +kernel
theorem dX6_sameAs_30 : decode cX6_sameAs 30 = .ok (.aload_n 0, 1) := by decide +kernel
theorem dX6_sameAs_31 : decode cX6_sameAs 31 = .ok (.iconst 1, 1) := by decide +kernel
theorem dX6_sameAs_32 : decode cX6_sameAs 32 = .ok (.iload_n 2, 1) := by decide +kernel
theorem dX6_sameAs_33 : decode cX6_sameAs 33 = .ok (.invokevirtual 75, 3) := by decide +kernel
theorem dX6_sameAs_36 : decode cX6_sameAs 36 = .ok (.aload_n 0, 1) := by decide +kernel
theorem dX6_sameAs_37 : decode cX6_sameAs 37 = .ok (.iconst 1, 1) := by decide +kernel
theorem dX6_sameAs_38 : decode cX6_sameAs 38 = .ok (.iload_n 1, 1) := by decide +kernel
theorem dX6_sameAs_39 : decode cX6_sameAs 39 = .ok (.invokevirtual 75, 3) := by decide +kernel
theorem dX6_sameAs_42 : decode cX6_sameAs 42 = .ok (.if_icmp .ne 20, 3) := by decide +kernel
theorem dX6_sameAs_45 : decode cX6_sameAs 45 = .ok (.aload_n 0, 1) := by decide +kernel
theorem dX6_sameAs_46 : decode cX6_sameAs 46 = .ok (.iconst 2, 1) := by decide +kernel
theorem dX6_sameAs_47 : decode cX6_sameAs 47 = .ok (.iload_n 2, 1) := by decide +kernel
theorem dX6_sameAs_48 : decode cX6_sameAs 48 = .ok (.invokevirtual 75, 3) := by decide +kernel
theorem dX6_sameAs_51 : decode cX6_sameAs 51 = .ok (.aload_n 0, 1) := by decide +kernel
theorem dX6_sameAs_52 : decode cX6_sameAs 52 = .ok (.iconst 2, 1) := by decide +kernel
theorem dX6_sameAs_53 : decode cX6_sameAs 53 = .ok (.iload_n 1, 1) := by decide +kernel
theorem dX6_sameAs_54 : decode cX6_sameAs 54 = .ok (.invokevirtual 75, 3) := by decide +kernel
theorem dX6_sameAs_57 : decode cX6_sameAs 57 = .ok (.if_icmp .ne 5, 3) := by decide +kernel
theorem dX6_sameAs_60 : decode cX6_sameAs 60 = .ok (.iload_n 2, 1) := by decide +kernel
theorem dX6_sameAs_61 : decode cX6_sameAs 61 = .ok (.ireturn, 1) := by decide +kernel
theorem dX6_sameAs_62 : decode cX6_sameAs 62 = .ok (.iinc 2 1, 3) := by decide +kernel
theorem dX6_sameAs_65 : decode cX6_sameAs 65 = .ok (.goto (-63), 3) := by decide +kernel
theorem dX6_sameAs_68 : decode cX6_sameAs 68 = .ok (.iconst (-1), 1) := by decide +kernel
theorem dX6_sameAs_69 : decode cX6_sameAs 69 = .ok (.ireturn, 1) := by decide +kernel
theorem dX6_why_0 : decode cX6_why 0 = .ok (.iload_n 1, 1) := by decide +kernel
theorem dX6_why_1 : decode cX6_why 1 = .ok (.iconst 0, 1) := by decide +kernel
theorem dX6_why_2 : decode cX6_why 2 = .ok (.iconst 2, 1) := by decide +kernel
theorem dX6_why_3 : decode cX6_why 3 = .ok (.invokestatic 54, 3) := by decide +kernel
theorem dX6_why_6 : decode cX6_why 6 = .ok (.ifCond .ne 5, 3) := by decide +kernel
theorem dX6_why_9 : decode cX6_why 9 = .ok (.iconst (-1), 1) := by decide +kernel
theorem dX6_why_10 : decode cX6_why 10 = .ok (.ireturn, 1) := by decide +kernel
theorem dX6_why_11 : decode cX6_why 11 = .ok (.aload_n 0, 1) := by decide +kernel
theorem dX6_why_12 : decode cX6_why 12 = .ok (.invokevirtual 95, 3) := by decide +kernel
theorem dX6_why_15 : decode cX6_why 15 = .ok (.istore_n 2, 1) := by decide +kernel
theorem dX6_why_16 : decode cX6_why 16 = .ok (.aload_n 0, 1) := by decide +kernel
theorem dX6_why_17 : decode cX6_why 17 = .ok (.invokevirtual 99, 3) := by decide +kernel
theorem dX6_why_20 : decode cX6_why 20 = .ok (.istore_n 3, 1) := by decide +kernel
theorem dX6_why_21 : decode cX6_why 21 = .ok (.iload_n 2, 1) := by decide +kernel
theorem dX6_why_22 : decode cX6_why 22 = .ok (.ifCond .ge 7, 3) := by decide +kernel
theorem dX6_why_25 : decode cX6_why 25 = .ok (.iload_n 3, 1) := by decide +kernel
theorem dX6_why_26 : decode cX6_why 26 = .ok (.ifCond .lt 38, 3) := by decide +kernel
theorem dX6_why_29 : decode cX6_why 29 = .ok (.iload_n 1, 1) := by decide +kernel
theorem dX6_why_30 : decode cX6_why 30 = .ok (.ifCond .ne 15, 3) := by decide +kernel
theorem dX6_why_33 : decode cX6_why 33 = .ok (.iload_n 2, 1) := by decide +kernel
theorem dX6_why_34 : decode cX6_why 34 = .ok (.ifCond .lt 7, 3) := by decide +kernel
theorem dX6_why_37 : decode cX6_why 37 = .ok (.iconst 1, 1) := by decide +kernel
theorem dX6_why_38 : decode cX6_why 38 = .ok (.goto 25, 3) := by decide +kernel
theorem dX6_why_41 : decode cX6_why 41 = .ok (.iconst 2, 1) := by decide +kernel
theorem dX6_why_42 : decode cX6_why 42 = .ok (.goto 21, 3) := by decide +kernel
theorem dX6_why_45 : decode cX6_why 45 = .ok (.iload_n 1, 1) := by decide +kernel
theorem dX6_why_46 : decode cX6_why 46 = .ok (.iconst 1, 1) := by decide +kernel
theorem dX6_why_47 : decode cX6_why 47 = .ok (.if_icmp .ne 15, 3) := by decide +kernel
theorem dX6_why_50 : decode cX6_why 50 = .ok (.iload_n 2, 1) := by decide +kernel
theorem dX6_why_51 : decode cX6_why 51 = .ok (.ifCond .lt 7, 3) := by decide +kernel
theorem dX6_why_54 : decode cX6_why 54 = .ok (.iload_n 2, 1) := by decide +kernel
theorem dX6_why_55 : decode cX6_why 55 = .ok (.goto 8, 3) := by decide +kernel
theorem dX6_why_58 : decode cX6_why 58 = .ok (.iload_n 3, 1) := by decide +kernel
theorem dX6_why_59 : decode cX6_why 59 = .ok (.goto 4, 3) := by decide +kernel
theorem dX6_why_62 : decode cX6_why 62 = .ok (.iconst (-1), 1) := by decide +kernel
theorem dX6_why_63 : decode cX6_why 63 = .ok (.ireturn, 1) := by decide +kernel
theorem dX6_why_64 : decode cX6_why 64 = .ok (.aload_n 0, 1) := by decide +kernel
theorem dX6_why_65 : decode cX6_why 65 = .ok (.invokevirtual 102, 3) := by decide +kernel
theorem dX6_why_68 : decode cX6_why 68 = .ok (.ifCond .ne 13, 3) := by decide +kernel
theorem dX6_why_71 : decode cX6_why 71 = .ok (.iload_n 1, 1) := by decide +kernel
theorem dX6_why_72 : decode cX6_why 72 = .ok (.ifCond .ne 7, 3) := by decide +kernel
theorem dX6_why_75 : decode cX6_why 75 = .ok (.iconst 0, 1) := by decide +kernel
theorem dX6_why_76 : decode cX6_why 76 = .ok (.goto 4, 3) := by decide +kernel
theorem dX6_why_79 : decode cX6_why 79 = .ok (.iconst (-1), 1) := by decide +kernel
theorem dX6_why_80 : decode cX6_why 80 = .ok (.ireturn, 1) := by decide +kernel
theorem dX6_why_81 : decode cX6_why 81 = .ok (.iload_n 1, 1) := by decide +kernel
theorem dX6_why_82 : decode cX6_why 82 = .ok (.ifCond .ne 5, 3) := by decide +kernel
theorem dX6_why_85 : decode cX6_why 85 = .ok (.iconst 3, 1) := by decide +kernel
theorem dX6_why_86 : decode cX6_why 86 = .ok (.ireturn, 1) := by decide +kernel
theorem dX6_why_87 : decode cX6_why 87 = .ok (.iconst 0, 1) := by decide +kernel
theorem dX6_why_88 : decode cX6_why 88 = .ok (.istore 4, 2) := by decide +kernel
theorem dX6_why_90 : decode cX6_why 90 = .ok (.iload 4, 2) := by decide +kernel
theorem dX6_why_92 : decode cX6_why 92 = .ok (.sipush 512, 3) := by decide +kernel
theorem dX6_why_95 : decode cX6_why 95 = .ok (.if_icmp .ge 44, 3) := by decide +kernel
theorem dX6_why_98 : decode cX6_why 98 = .ok (.aload_n 0, 1) := by decide +kernel
theorem dX6_why_99 : decode cX6_why 99 = .ok (.iload 4, 2) := by decide +kernel
theorem dX6_why_101 : decode cX6_why 101 = .ok (.invokevirtual 106, 3) := by decide +kernel
theorem dX6_why_104 : decode cX6_why 104 = .ok (.ifCond .eq 29, 3) := by decide +kernel
theorem dX6_why_107 : decode cX6_why 107 = .ok (.aload_n 0, 1) := by decide +kernel
theorem dX6_why_108 : decode cX6_why 108 = .ok (.iload 4, 2) := by decide +kernel
theorem dX6_why_110 : decode cX6_why 110 = .ok (.invokevirtual 109, 3) := by decide +kernel
theorem dX6_why_113 : decode cX6_why 113 = .ok (.ifCond .lt 20, 3) := by decide +kernel
theorem dX6_why_116 : decode cX6_why 116 = .ok (.iload_n 1, 1) := by decide +kernel
theorem dX6_why_117 : decode cX6_why 117 = .ok (.iconst 1, 1) := by decide +kernel
theorem dX6_why_118 : decode cX6_why 118 = .ok (.if_icmp .ne 8, 3) := by decide +kernel
theorem dX6_why_121 : decode cX6_why 121 = .ok (.iload 4, 2) := by decide +kernel
theorem dX6_why_123 : decode cX6_why 123 = .ok (.goto 9, 3) := by decide +kernel
theorem dX6_why_126 : decode cX6_why 126 = .ok (.aload_n 0, 1) := by decide +kernel
theorem dX6_why_127 : decode cX6_why 127 = .ok (.iload 4, 2) := by decide +kernel
theorem dX6_why_129 : decode cX6_why 129 = .ok (.invokevirtual 109, 3) := by decide +kernel
theorem dX6_why_132 : decode cX6_why 132 = .ok (.ireturn, 1) := by decide +kernel
theorem dX6_why_133 : decode cX6_why 133 = .ok (.iinc 4 1, 3) := by decide +kernel
theorem dX6_why_136 : decode cX6_why 136 = .ok (.goto (-46), 3) := by decide +kernel
theorem dX6_why_139 : decode cX6_why 139 = .ok (.iconst (-1), 1) := by decide +kernel
theorem dX6_why_140 : decode cX6_why 140 = .ok (.ireturn, 1) := by decide +kernel
theorem dX6_beats_0 : decode cX6_beats 0 = .ok (.iconst 0, 1) := by decide +kernel
theorem dX6_beats_1 : decode cX6_beats 1 = .ok (.istore_n 1, 1) := by decide +kernel
theorem dX6_beats_2 : decode cX6_beats 2 = .ok (.iconst 0, 1) := by decide +kernel
theorem dX6_beats_3 : decode cX6_beats 3 = .ok (.istore_n 2, 1) := by decide +kernel
theorem dX6_beats_4 : decode cX6_beats 4 = .ok (.iload_n 2, 1) := by decide +kernel
theorem dX6_beats_5 : decode cX6_beats 5 = .ok (.sipush 512, 3) := by decide +kernel
theorem dX6_beats_8 : decode cX6_beats 8 = .ok (.if_icmp .ge 34, 3) := by decide +kernel
theorem dX6_beats_11 : decode cX6_beats 11 = .ok (.aload_n 0, 1) := by decide +kernel
theorem dX6_beats_12 : decode cX6_beats 12 = .ok (.iload_n 2, 1) := by decide +kernel
theorem dX6_beats_13 : decode cX6_beats 13 = .ok (.invokevirtual 106, 3) := by decide +kernel
theorem dX6_beats_16 : decode cX6_beats 16 = .ok (.ifCond .eq 20, 3) := by decide +kernel
theorem dX6_beats_19 : decode cX6_beats 19 = .ok (.aload_n 0, 1) := by decide +kernel
theorem dX6_beats_20 : decode cX6_beats 20 = .ok (.iload_n 2, 1) := by decide +kernel
theorem dX6_beats_21 : decode cX6_beats 21 = .ok (.invokevirtual 112, 3) := by decide +kernel
theorem dX6_beats_24 : decode cX6_beats 24 = .ok (.istore_n 3, 1) := by decide +kernel
theorem dX6_beats_25 : decode cX6_beats 25 = .ok (.iload_n 3, 1) := by decide +kernel
theorem dX6_beats_26 : decode cX6_beats 26 = .ok (.iload_n 1, 1) := by decide +kernel
theorem dX6_beats_27 : decode cX6_beats 27 = .ok (.if_icmp .le 7, 3) := by decide +kernel
theorem dX6_beats_30 : decode cX6_beats 30 = .ok (.iload_n 3, 1) := by decide +kernel
theorem dX6_beats_31 : decode cX6_beats 31 = .ok (.goto 4, 3) := by decide +kernel
theorem dX6_beats_34 : decode cX6_beats 34 = .ok (.iload_n 1, 1) := by decide +kernel
theorem dX6_beats_35 : decode cX6_beats 35 = .ok (.istore_n 1, 1) := by decide +kernel
theorem dX6_beats_36 : decode cX6_beats 36 = .ok (.iinc 2 1, 3) := by decide +kernel
theorem dX6_beats_39 : decode cX6_beats 39 = .ok (.goto (-35), 3) := by decide +kernel
theorem dX6_beats_42 : decode cX6_beats 42 = .ok (.iload_n 1, 1) := by decide +kernel
theorem dX6_beats_43 : decode cX6_beats 43 = .ok (.iconst 1, 1) := by decide +kernel
theorem dX6_beats_44 : decode cX6_beats 44 = .ok (.iadd, 1) := by decide +kernel
theorem dX6_beats_45 : decode cX6_beats 45 = .ok (.ireturn, 1) := by decide +kernel
theorem dX6_cells_0 : decode cX6_cells 0 = .ok (.iconst 0, 1) := by decide +kernel
theorem dX6_cells_1 : decode cX6_cells 1 = .ok (.istore_n 1, 1) := by decide +kernel
theorem dX6_cells_2 : decode cX6_cells 2 = .ok (.iload_n 1, 1) := by decide +kernel
theorem dX6_cells_3 : decode cX6_cells 3 = .ok (.sipush 4096, 3) := by decide +kernel
theorem dX6_cells_6 : decode cX6_cells 6 = .ok (.if_icmp .ge 16, 3) := by decide +kernel
theorem dX6_cells_9 : decode cX6_cells 9 = .ok (.aload_n 0, 1) := by decide +kernel
theorem dX6_cells_10 : decode cX6_cells 10 = .ok (.getfield 41, 3) := by decide +kernel
theorem dX6_cells_13 : decode cX6_cells 13 = .ok (.iload_n 1, 1) := by decide +kernel
theorem dX6_cells_14 : decode cX6_cells 14 = .ok (.iconst 0, 1) := by decide +kernel
theorem dX6_cells_15 : decode cX6_cells 15 = .ok (.bastore, 1) := by decide +kernel
theorem dX6_cells_16 : decode cX6_cells 16 = .ok (.iinc 1 1, 3) := by decide +kernel
theorem dX6_cells_19 : decode cX6_cells 19 = .ok (.goto (-17), 3) := by decide +kernel
theorem dX6_cells_22 : decode cX6_cells 22 = .ok (.iconst 0, 1) := by decide +kernel
theorem dX6_cells_23 : decode cX6_cells 23 = .ok (.istore_n 1, 1) := by decide +kernel
theorem dX6_cells_24 : decode cX6_cells 24 = .ok (.iconst 0, 1) := by decide +kernel
theorem dX6_cells_25 : decode cX6_cells 25 = .ok (.istore_n 2, 1) := by decide +kernel
theorem dX6_cells_26 : decode cX6_cells 26 = .ok (.iload_n 2, 1) := by decide +kernel
theorem dX6_cells_27 : decode cX6_cells 27 = .ok (.sipush 512, 3) := by decide +kernel
theorem dX6_cells_30 : decode cX6_cells 30 = .ok (.if_icmp .ge 60, 3) := by decide +kernel
theorem dX6_cells_33 : decode cX6_cells 33 = .ok (.aload_n 0, 1) := by decide +kernel
theorem dX6_cells_34 : decode cX6_cells 34 = .ok (.iload_n 2, 1) := by decide +kernel
theorem dX6_cells_35 : decode cX6_cells 35 = .ok (.invokevirtual 106, 3) := by decide +kernel
theorem dX6_cells_38 : decode cX6_cells 38 = .ok (.ifCond .ne 6, 3) := by decide +kernel
theorem dX6_cells_41 : decode cX6_cells 41 = .ok (.goto 43, 3) := by decide +kernel
theorem dX6_cells_44 : decode cX6_cells 44 = .ok (.bipush 64, 2) := by decide +kernel
theorem dX6_cells_46 : decode cX6_cells 46 = .ok (.aload_n 0, 1) := by decide +kernel
theorem dX6_cells_47 : decode cX6_cells 47 = .ok (.iload_n 2, 1) := by decide +kernel
theorem dX6_cells_48 : decode cX6_cells 48 = .ok (.invokevirtual 115, 3) := by decide +kernel
theorem dX6_cells_51 : decode cX6_cells 51 = .ok (.imul, 1) := by decide +kernel
theorem dX6_cells_52 : decode cX6_cells 52 = .ok (.aload_n 0, 1) := by decide +kernel
theorem dX6_cells_53 : decode cX6_cells 53 = .ok (.iconst 2, 1) := by decide +kernel
theorem dX6_cells_54 : decode cX6_cells 54 = .ok (.iload_n 2, 1) := by decide +kernel
theorem dX6_cells_55 : decode cX6_cells 55 = .ok (.invokevirtual 75, 3) := by decide +kernel
theorem dX6_cells_58 : decode cX6_cells 58 = .ok (.iadd, 1) := by decide +kernel
theorem dX6_cells_59 : decode cX6_cells 59 = .ok (.istore_n 3, 1) := by decide +kernel
theorem dX6_cells_60 : decode cX6_cells 60 = .ok (.iload_n 1, 1) := by decide +kernel
theorem dX6_cells_61 : decode cX6_cells 61 = .ok (.aload_n 0, 1) := by decide +kernel
theorem dX6_cells_62 : decode cX6_cells 62 = .ok (.getfield 41, 3) := by decide +kernel
theorem dX6_cells_65 : decode cX6_cells 65 = .ok (.iload_n 3, 1) := by decide +kernel
theorem dX6_cells_66 : decode cX6_cells 66 = .ok (.baload, 1) := by decide +kernel
theorem dX6_cells_67 : decode cX6_cells 67 = .ok (.ifCond .eq 7, 3) := by decide +kernel
theorem dX6_cells_70 : decode cX6_cells 70 = .ok (.iconst 0, 1) := by decide +kernel
theorem dX6_cells_71 : decode cX6_cells 71 = .ok (.goto 4, 3) := by decide +kernel
theorem dX6_cells_74 : decode cX6_cells 74 = .ok (.iconst 1, 1) := by decide +kernel
theorem dX6_cells_75 : decode cX6_cells 75 = .ok (.iadd, 1) := by decide +kernel
theorem dX6_cells_76 : decode cX6_cells 76 = .ok (.istore_n 1, 1) := by decide +kernel
theorem dX6_cells_77 : decode cX6_cells 77 = .ok (.aload_n 0, 1) := by decide +kernel
theorem dX6_cells_78 : decode cX6_cells 78 = .ok (.getfield 41, 3) := by decide +kernel
theorem dX6_cells_81 : decode cX6_cells 81 = .ok (.iload_n 3, 1) := by decide +kernel
theorem dX6_cells_82 : decode cX6_cells 82 = .ok (.iconst 1, 1) := by decide +kernel
theorem dX6_cells_83 : decode cX6_cells 83 = .ok (.bastore, 1) := by decide +kernel
theorem dX6_cells_84 : decode cX6_cells 84 = .ok (.iinc 2 1, 3) := by decide +kernel
theorem dX6_cells_87 : decode cX6_cells 87 = .ok (.goto (-61), 3) := by decide +kernel
theorem dX6_cells_90 : decode cX6_cells 90 = .ok (.iload_n 1, 1) := by decide +kernel
theorem dX6_cells_91 : decode cX6_cells 91 = .ok (.ireturn, 1) := by decide +kernel
theorem dX6_apart_0 : decode cX6_apart 0 = .ok (.iconst 0, 1) := by decide +kernel
theorem dX6_apart_1 : decode cX6_apart 1 = .ok (.istore_n 1, 1) := by decide +kernel
theorem dX6_apart_2 : decode cX6_apart 2 = .ok (.iload_n 1, 1) := by decide +kernel
theorem dX6_apart_3 : decode cX6_apart 3 = .ok (.sipush 1024, 3) := by decide +kernel
theorem dX6_apart_6 : decode cX6_apart 6 = .ok (.if_icmp .ge 16, 3) := by decide +kernel
theorem dX6_apart_9 : decode cX6_apart 9 = .ok (.aload_n 0, 1) := by decide +kernel
theorem dX6_apart_10 : decode cX6_apart 10 = .ok (.getfield 45, 3) := by decide +kernel
theorem dX6_apart_13 : decode cX6_apart 13 = .ok (.iload_n 1, 1) := by decide +kernel
theorem dX6_apart_14 : decode cX6_apart 14 = .ok (.iconst 0, 1) := by decide +kernel
theorem dX6_apart_15 : decode cX6_apart 15 = .ok (.bastore, 1) := by decide +kernel
theorem dX6_apart_16 : decode cX6_apart 16 = .ok (.iinc 1 1, 3) := by decide +kernel
theorem dX6_apart_19 : decode cX6_apart 19 = .ok (.goto (-17), 3) := by decide +kernel
theorem dX6_apart_22 : decode cX6_apart 22 = .ok (.iconst 0, 1) := by decide +kernel
theorem dX6_apart_23 : decode cX6_apart 23 = .ok (.istore_n 1, 1) := by decide +kernel
theorem dX6_apart_24 : decode cX6_apart 24 = .ok (.iload_n 1, 1) := by decide +kernel
theorem dX6_apart_25 : decode cX6_apart 25 = .ok (.sipush 512, 3) := by decide +kernel
theorem dX6_apart_28 : decode cX6_apart 28 = .ok (.if_icmp .ge 86, 3) := by decide +kernel
theorem dX6_apart_31 : decode cX6_apart 31 = .ok (.iconst 0, 1) := by decide +kernel
theorem dX6_apart_32 : decode cX6_apart 32 = .ok (.istore_n 2, 1) := by decide +kernel
theorem dX6_apart_33 : decode cX6_apart 33 = .ok (.iload_n 2, 1) := by decide +kernel
theorem dX6_apart_34 : decode cX6_apart 34 = .ok (.iload_n 1, 1) := by decide +kernel
theorem dX6_apart_35 : decode cX6_apart 35 = .ok (.if_icmp .ge 73, 3) := by decide +kernel
theorem dX6_apart_38 : decode cX6_apart 38 = .ok (.aload_n 0, 1) := by decide +kernel
theorem dX6_apart_39 : decode cX6_apart 39 = .ok (.iload_n 1, 1) := by decide +kernel
theorem dX6_apart_40 : decode cX6_apart 40 = .ok (.invokevirtual 106, 3) := by decide +kernel
theorem dX6_apart_43 : decode cX6_apart 43 = .ok (.ifCond .eq 65, 3) := by decide +kernel
theorem dX6_apart_46 : decode cX6_apart 46 = .ok (.aload_n 0, 1) := by decide +kernel
theorem dX6_apart_47 : decode cX6_apart 47 = .ok (.iload_n 2, 1) := by decide +kernel
theorem dX6_apart_48 : decode cX6_apart 48 = .ok (.invokevirtual 106, 3) := by decide +kernel
theorem dX6_apart_51 : decode cX6_apart 51 = .ok (.ifCond .eq 51, 3) := by decide +kernel
theorem dX6_apart_54 : decode cX6_apart 54 = .ok (.aload_n 0, 1) := by decide +kernel
theorem dX6_apart_55 : decode cX6_apart 55 = .ok (.iload_n 1, 1) := by decide +kernel
theorem dX6_apart_56 : decode cX6_apart 56 = .ok (.invokevirtual 115, 3) := by decide +kernel
theorem dX6_apart_59 : decode cX6_apart 59 = .ok (.aload_n 0, 1) := by decide +kernel
theorem dX6_apart_60 : decode cX6_apart 60 = .ok (.iload_n 2, 1) := by decide +kernel
theorem dX6_apart_61 : decode cX6_apart 61 = .ok (.invokevirtual 115, 3) := by decide +kernel
theorem dX6_apart_64 : decode cX6_apart 64 = .ok (.if_icmp .ne 38, 3) := by decide +kernel
theorem dX6_apart_67 : decode cX6_apart 67 = .ok (.aload_n 0, 1) := by decide +kernel
theorem dX6_apart_68 : decode cX6_apart 68 = .ok (.iconst 2, 1) := by decide +kernel
theorem dX6_apart_69 : decode cX6_apart 69 = .ok (.iload_n 1, 1) := by decide +kernel
theorem dX6_apart_70 : decode cX6_apart 70 = .ok (.invokevirtual 75, 3) := by decide +kernel
theorem dX6_apart_73 : decode cX6_apart 73 = .ok (.aload_n 0, 1) := by decide +kernel
theorem dX6_apart_74 : decode cX6_apart 74 = .ok (.iconst 2, 1) := by decide +kernel
theorem dX6_apart_75 : decode cX6_apart 75 = .ok (.iload_n 2, 1) := by decide +kernel
theorem dX6_apart_76 : decode cX6_apart 76 = .ok (.invokevirtual 75, 3) := by decide +kernel
theorem dX6_apart_79 : decode cX6_apart 79 = .ok (.if_icmp .ne 23, 3) := by decide +kernel
theorem dX6_apart_82 : decode cX6_apart 82 = .ok (.aload_n 0, 1) := by decide +kernel
theorem dX6_apart_83 : decode cX6_apart 83 = .ok (.getfield 45, 3) := by decide +kernel
theorem dX6_apart_86 : decode cX6_apart 86 = .ok (.aload_n 0, 1) := by decide +kernel
theorem dX6_apart_87 : decode cX6_apart 87 = .ok (.iload_n 1, 1) := by decide +kernel
theorem dX6_apart_88 : decode cX6_apart 88 = .ok (.invokevirtual 112, 3) := by decide +kernel
theorem dX6_apart_91 : decode cX6_apart 91 = .ok (.aload_n 0, 1) := by decide +kernel
theorem dX6_apart_92 : decode cX6_apart 92 = .ok (.iload_n 2, 1) := by decide +kernel
theorem dX6_apart_93 : decode cX6_apart 93 = .ok (.invokevirtual 112, 3) := by decide +kernel
theorem dX6_apart_96 : decode cX6_apart 96 = .ok (.isub, 1) := by decide +kernel
theorem dX6_apart_97 : decode cX6_apart 97 = .ok (.invokestatic 82, 3) := by decide +kernel
theorem dX6_apart_100 : decode cX6_apart 100 = .ok (.iconst 1, 1) := by decide +kernel
theorem dX6_apart_101 : decode cX6_apart 101 = .ok (.bastore, 1) := by decide +kernel
theorem dX6_apart_102 : decode cX6_apart 102 = .ok (.iinc 2 1, 3) := by decide +kernel
theorem dX6_apart_105 : decode cX6_apart 105 = .ok (.goto (-72), 3) := by decide +kernel
theorem dX6_apart_108 : decode cX6_apart 108 = .ok (.iinc 1 1, 3) := by decide +kernel
theorem dX6_apart_111 : decode cX6_apart 111 = .ok (.goto (-87), 3) := by decide +kernel
theorem dX6_apart_114 : decode cX6_apart 114 = .ok (.aload_n 0, 1) := by decide +kernel
theorem dX6_apart_115 : decode cX6_apart 115 = .ok (.getfield 45, 3) := by decide +kernel
theorem dX6_apart_118 : decode cX6_apart 118 = .ok (.iconst 0, 1) := by decide +kernel
theorem dX6_apart_119 : decode cX6_apart 119 = .ok (.baload, 1) := by decide +kernel
theorem dX6_apart_120 : decode cX6_apart 120 = .ok (.ifCond .eq 5, 3) := by decide +kernel
theorem dX6_apart_123 : decode cX6_apart 123 = .ok (.iconst (-1), 1) := by decide +kernel
theorem dX6_apart_124 : decode cX6_apart 124 = .ok (.ireturn, 1) := by decide +kernel
theorem dX6_apart_125 : decode cX6_apart 125 = .ok (.iconst 1, 1) := by decide +kernel
theorem dX6_apart_126 : decode cX6_apart 126 = .ok (.istore_n 1, 1) := by decide +kernel
theorem dX6_apart_127 : decode cX6_apart 127 = .ok (.aload_n 0, 1) := by decide +kernel
theorem dX6_apart_128 : decode cX6_apart 128 = .ok (.iload_n 1, 1) := by decide +kernel
theorem dX6_apart_129 : decode cX6_apart 129 = .ok (.invokevirtual 118, 3) := by decide +kernel
theorem dX6_apart_132 : decode cX6_apart 132 = .ok (.ifCond .eq 9, 3) := by decide +kernel
theorem dX6_apart_135 : decode cX6_apart 135 = .ok (.iinc 1 1, 3) := by decide +kernel
theorem dX6_apart_138 : decode cX6_apart 138 = .ok (.goto (-11), 3) := by decide +kernel
theorem dX6_apart_141 : decode cX6_apart 141 = .ok (.iload_n 1, 1) := by decide +kernel
theorem dX6_apart_142 : decode cX6_apart 142 = .ok (.ireturn, 1) := by decide +kernel
theorem dX6_divides_0 : decode cX6_divides 0 = .ok (.iconst 0, 1) := by decide +kernel
theorem dX6_divides_1 : decode cX6_divides 1 = .ok (.istore_n 2, 1) := by decide +kernel
theorem dX6_divides_2 : decode cX6_divides 2 = .ok (.iload_n 1, 1) := by decide +kernel
theorem dX6_divides_3 : decode cX6_divides 3 = .ok (.istore_n 3, 1) := by decide +kernel
theorem dX6_divides_4 : decode cX6_divides 4 = .ok (.iload_n 3, 1) := by decide +kernel
theorem dX6_divides_5 : decode cX6_divides 5 = .ok (.sipush 1024, 3) := by decide +kernel
theorem dX6_divides_8 : decode cX6_divides 8 = .ok (.if_icmp .ge 29, 3) := by decide +kernel
theorem dX6_divides_11 : decode cX6_divides 11 = .ok (.iload_n 2, 1) := by decide +kernel
theorem dX6_divides_12 : decode cX6_divides 12 = .ok (.ifCond .ne 12, 3) := by decide +kernel
theorem dX6_divides_15 : decode cX6_divides 15 = .ok (.aload_n 0, 1) := by decide +kernel
theorem dX6_divides_16 : decode cX6_divides 16 = .ok (.getfield 45, 3) := by decide +kernel
theorem dX6_divides_19 : decode cX6_divides 19 = .ok (.iload_n 3, 1) := by decide +kernel
theorem dX6_divides_20 : decode cX6_divides 20 = .ok (.baload, 1) := by decide +kernel
theorem dX6_divides_21 : decode cX6_divides 21 = .ok (.ifCond .eq 7, 3) := by decide +kernel
theorem dX6_divides_24 : decode cX6_divides 24 = .ok (.iconst 1, 1) := by decide +kernel
theorem dX6_divides_25 : decode cX6_divides 25 = .ok (.goto 4, 3) := by decide +kernel
theorem dX6_divides_28 : decode cX6_divides 28 = .ok (.iconst 0, 1) := by decide +kernel
theorem dX6_divides_29 : decode cX6_divides 29 = .ok (.istore_n 2, 1) := by decide +kernel
theorem dX6_divides_30 : decode cX6_divides 30 = .ok (.iload_n 3, 1) := by decide +kernel
theorem dX6_divides_31 : decode cX6_divides 31 = .ok (.iload_n 1, 1) := by decide +kernel
theorem dX6_divides_32 : decode cX6_divides 32 = .ok (.iadd, 1) := by decide +kernel
theorem dX6_divides_33 : decode cX6_divides 33 = .ok (.istore_n 3, 1) := by decide +kernel
theorem dX6_divides_34 : decode cX6_divides 34 = .ok (.goto (-30), 3) := by decide +kernel
theorem dX6_divides_37 : decode cX6_divides 37 = .ok (.iload_n 2, 1) := by decide +kernel
theorem dX6_divides_38 : decode cX6_divides 38 = .ok (.ireturn, 1) := by decide +kernel
theorem dX6_laid_0 : decode cX6_laid 0 = .ok (.iload_n 1, 1) := by decide +kernel
theorem dX6_laid_1 : decode cX6_laid 1 = .ok (.tableswitch 65 0 3 #[31, 36, 41, 60], 31) := by decide +kernel
theorem dX6_laid_32 : decode cX6_laid 32 = .ok (.aload_n 0, 1) := by decide +kernel
theorem dX6_laid_33 : decode cX6_laid 33 = .ok (.invokevirtual 121, 3) := by decide +kernel
theorem dX6_laid_36 : decode cX6_laid 36 = .ok (.ireturn, 1) := by decide +kernel
theorem dX6_laid_37 : decode cX6_laid 37 = .ok (.aload_n 0, 1) := by decide +kernel
theorem dX6_laid_38 : decode cX6_laid 38 = .ok (.invokevirtual 124, 3) := by decide +kernel
theorem dX6_laid_41 : decode cX6_laid 41 = .ok (.ireturn, 1) := by decide +kernel
theorem dX6_laid_42 : decode cX6_laid 42 = .ok (.sipush 1000, 3) := by decide +kernel
theorem dX6_laid_45 : decode cX6_laid 45 = .ok (.aload_n 0, 1) := by decide +kernel
theorem dX6_laid_46 : decode cX6_laid 46 = .ok (.invokevirtual 127, 3) := by decide +kernel
theorem dX6_laid_49 : decode cX6_laid 49 = .ok (.imul, 1) := by decide +kernel
theorem dX6_laid_50 : decode cX6_laid 50 = .ok (.aload_n 0, 1) := by decide +kernel
theorem dX6_laid_51 : decode cX6_laid 51 = .ok (.invokevirtual 121, 3) := by decide +kernel
theorem dX6_laid_54 : decode cX6_laid 54 = .ok (.aload_n 0, 1) := by decide +kernel
theorem dX6_laid_55 : decode cX6_laid 55 = .ok (.invokevirtual 124, 3) := by decide +kernel
theorem dX6_laid_58 : decode cX6_laid 58 = .ok (.imul, 1) := by decide +kernel
theorem dX6_laid_59 : decode cX6_laid 59 = .ok (.idiv, 1) := by decide +kernel
theorem dX6_laid_60 : decode cX6_laid 60 = .ok (.ireturn, 1) := by decide +kernel
theorem dX6_laid_61 : decode cX6_laid 61 = .ok (.aload_n 0, 1) := by decide +kernel
theorem dX6_laid_62 : decode cX6_laid 62 = .ok (.invokevirtual 130, 3) := by decide +kernel
theorem dX6_laid_65 : decode cX6_laid 65 = .ok (.ireturn, 1) := by decide +kernel
theorem dX6_laid_66 : decode cX6_laid 66 = .ok (.iconst (-1), 1) := by decide +kernel
theorem dX6_laid_67 : decode cX6_laid 67 = .ok (.ireturn, 1) := by decide +kernel
theorem dX6_where_0 : decode cX6_where 0 = .ok (.aload_n 0, 1) := by decide +kernel
theorem dX6_where_1 : decode cX6_where 1 = .ok (.iload_n 1, 1) := by decide +kernel
theorem dX6_where_2 : decode cX6_where 2 = .ok (.iload_n 2, 1) := by decide +kernel
theorem dX6_where_3 : decode cX6_where 3 = .ok (.iload_n 3, 1) := by decide +kernel
theorem dX6_where_4 : decode cX6_where 4 = .ok (.invokevirtual 61, 3) := by decide +kernel
theorem dX6_where_7 : decode cX6_where 7 = .ok (.ifCond .ne 5, 3) := by decide +kernel
theorem dX6_where_10 : decode cX6_where 10 = .ok (.iconst (-1), 1) := by decide +kernel
theorem dX6_where_11 : decode cX6_where 11 = .ok (.ireturn, 1) := by decide +kernel
theorem dX6_where_12 : decode cX6_where 12 = .ok (.bipush 64, 2) := by decide +kernel
theorem dX6_where_14 : decode cX6_where 14 = .ok (.iload_n 1, 1) := by decide +kernel
theorem dX6_where_15 : decode cX6_where 15 = .ok (.imul, 1) := by decide +kernel
theorem dX6_where_16 : decode cX6_where 16 = .ok (.bipush 8, 2) := by decide +kernel
theorem dX6_where_18 : decode cX6_where 18 = .ok (.iload_n 2, 1) := by decide +kernel
theorem dX6_where_19 : decode cX6_where 19 = .ok (.imul, 1) := by decide +kernel
theorem dX6_where_20 : decode cX6_where 20 = .ok (.iadd, 1) := by decide +kernel
theorem dX6_where_21 : decode cX6_where 21 = .ok (.iload_n 3, 1) := by decide +kernel
theorem dX6_where_22 : decode cX6_where 22 = .ok (.iadd, 1) := by decide +kernel
theorem dX6_where_23 : decode cX6_where 23 = .ok (.istore 5, 2) := by decide +kernel
theorem dX6_where_25 : decode cX6_where 25 = .ok (.iload 4, 2) := by decide +kernel
theorem dX6_where_27 : decode cX6_where 27 = .ok (.ifCond .ne 12, 3) := by decide +kernel
theorem dX6_where_30 : decode cX6_where 30 = .ok (.aload_n 0, 1) := by decide +kernel
theorem dX6_where_31 : decode cX6_where 31 = .ok (.iload 5, 2) := by decide +kernel
theorem dX6_where_33 : decode cX6_where 33 = .ok (.invokevirtual 112, 3) := by decide +kernel
theorem dX6_where_36 : decode cX6_where 36 = .ok (.goto 35, 3) := by decide +kernel
theorem dX6_where_39 : decode cX6_where 39 = .ok (.iload 4, 2) := by decide +kernel
theorem dX6_where_41 : decode cX6_where 41 = .ok (.iconst 1, 1) := by decide +kernel
theorem dX6_where_42 : decode cX6_where 42 = .ok (.if_icmp .ne 12, 3) := by decide +kernel
theorem dX6_where_45 : decode cX6_where 45 = .ok (.aload_n 0, 1) := by decide +kernel
theorem dX6_where_46 : decode cX6_where 46 = .ok (.iload 5, 2) := by decide +kernel
theorem dX6_where_48 : decode cX6_where 48 = .ok (.invokevirtual 115, 3) := by decide +kernel
theorem dX6_where_51 : decode cX6_where 51 = .ok (.goto 20, 3) := by decide +kernel
theorem dX6_where_54 : decode cX6_where 54 = .ok (.iload 4, 2) := by decide +kernel
theorem dX6_where_56 : decode cX6_where 56 = .ok (.iconst 2, 1) := by decide +kernel
theorem dX6_where_57 : decode cX6_where 57 = .ok (.if_icmp .ne 13, 3) := by decide +kernel
theorem dX6_where_60 : decode cX6_where 60 = .ok (.aload_n 0, 1) := by decide +kernel
theorem dX6_where_61 : decode cX6_where 61 = .ok (.iconst 2, 1) := by decide +kernel
theorem dX6_where_62 : decode cX6_where 62 = .ok (.iload 5, 2) := by decide +kernel
theorem dX6_where_64 : decode cX6_where 64 = .ok (.invokevirtual 75, 3) := by decide +kernel
theorem dX6_where_67 : decode cX6_where 67 = .ok (.goto 4, 3) := by decide +kernel
theorem dX6_where_70 : decode cX6_where 70 = .ok (.iconst (-1), 1) := by decide +kernel
theorem dX6_where_71 : decode cX6_where 71 = .ok (.ireturn, 1) := by decide +kernel
theorem dX6_needs_0 : decode cX6_needs 0 = .ok (.aload_n 0, 1) := by decide +kernel
theorem dX6_needs_1 : decode cX6_needs 1 = .ok (.iload_n 1, 1) := by decide +kernel
theorem dX6_needs_2 : decode cX6_needs 2 = .ok (.invokevirtual 71, 3) := by decide +kernel
theorem dX6_needs_5 : decode cX6_needs 5 = .ok (.ifCond .ne 7, 3) := by decide +kernel
theorem dX6_needs_8 : decode cX6_needs 8 = .ok (.sipush (-1000), 3) := by decide +kernel
theorem dX6_needs_11 : decode cX6_needs 11 = .ok (.ireturn, 1) := by decide +kernel
theorem dX6_needs_12 : decode cX6_needs 12 = .ok (.iload_n 2, 1) := by decide +kernel
theorem dX6_needs_13 : decode cX6_needs 13 = .ok (.ifCond .ne 11, 3) := by decide +kernel
theorem dX6_needs_16 : decode cX6_needs 16 = .ok (.aload_n 0, 1) := by decide +kernel
theorem dX6_needs_17 : decode cX6_needs 17 = .ok (.iload_n 1, 1) := by decide +kernel
theorem dX6_needs_18 : decode cX6_needs 18 = .ok (.invokevirtual 89, 3) := by decide +kernel
theorem dX6_needs_21 : decode cX6_needs 21 = .ok (.goto 40, 3) := by decide +kernel
theorem dX6_needs_24 : decode cX6_needs 24 = .ok (.iload_n 2, 1) := by decide +kernel
theorem dX6_needs_25 : decode cX6_needs 25 = .ok (.iconst 1, 1) := by decide +kernel
theorem dX6_needs_26 : decode cX6_needs 26 = .ok (.if_icmp .ne 11, 3) := by decide +kernel
theorem dX6_needs_29 : decode cX6_needs 29 = .ok (.aload_n 0, 1) := by decide +kernel
theorem dX6_needs_30 : decode cX6_needs 30 = .ok (.iload_n 1, 1) := by decide +kernel
theorem dX6_needs_31 : decode cX6_needs 31 = .ok (.invokevirtual 92, 3) := by decide +kernel
theorem dX6_needs_34 : decode cX6_needs 34 = .ok (.goto 27, 3) := by decide +kernel
theorem dX6_needs_37 : decode cX6_needs 37 = .ok (.iload_n 2, 1) := by decide +kernel
theorem dX6_needs_38 : decode cX6_needs 38 = .ok (.iconst 2, 1) := by decide +kernel
theorem dX6_needs_39 : decode cX6_needs 39 = .ok (.if_icmp .ne 19, 3) := by decide +kernel
theorem dX6_needs_42 : decode cX6_needs 42 = .ok (.aload_n 0, 1) := by decide +kernel
theorem dX6_needs_43 : decode cX6_needs 43 = .ok (.iload_n 1, 1) := by decide +kernel
theorem dX6_needs_44 : decode cX6_needs 44 = .ok (.invokevirtual 86, 3) := by decide +kernel
theorem dX6_needs_47 : decode cX6_needs 47 = .ok (.ifCond .eq 7, 3) := by decide +kernel
theorem dX6_needs_50 : decode cX6_needs 50 = .ok (.iconst 1, 1) := by decide +kernel
theorem dX6_needs_51 : decode cX6_needs 51 = .ok (.goto 10, 3) := by decide +kernel
theorem dX6_needs_54 : decode cX6_needs 54 = .ok (.iconst 0, 1) := by decide +kernel
theorem dX6_needs_55 : decode cX6_needs 55 = .ok (.goto 6, 3) := by decide +kernel
theorem dX6_needs_58 : decode cX6_needs 58 = .ok (.sipush (-1000), 3) := by decide +kernel
theorem dX6_needs_61 : decode cX6_needs 61 = .ok (.ireturn, 1) := by decide +kernel
theorem dX6_numbers_0 : decode cX6_numbers 0 = .ok (.iconst 2, 1) := by decide +kernel
theorem dX6_numbers_1 : decode cX6_numbers 1 = .ok (.iload_n 3, 1) := by decide +kernel
theorem dX6_numbers_2 : decode cX6_numbers 2 = .ok (.imul, 1) := by decide +kernel
theorem dX6_numbers_3 : decode cX6_numbers 3 = .ok (.iconst 1, 1) := by decide +kernel
theorem dX6_numbers_4 : decode cX6_numbers 4 = .ok (.iadd, 1) := by decide +kernel
theorem dX6_numbers_5 : decode cX6_numbers 5 = .ok (.istore 4, 2) := by decide +kernel
theorem dX6_numbers_7 : decode cX6_numbers 7 = .ok (.aload_n 0, 1) := by decide +kernel
theorem dX6_numbers_8 : decode cX6_numbers 8 = .ok (.getfield 28, 3) := by decide +kernel
theorem dX6_numbers_11 : decode cX6_numbers 11 = .ok (.iconst 3, 1) := by decide +kernel
theorem dX6_numbers_12 : decode cX6_numbers 12 = .ok (.iload_n 1, 1) := by decide +kernel
theorem dX6_numbers_13 : decode cX6_numbers 13 = .ok (.imul, 1) := by decide +kernel
theorem dX6_numbers_14 : decode cX6_numbers 14 = .ok (.iload_n 2, 1) := by decide +kernel
theorem dX6_numbers_15 : decode cX6_numbers 15 = .ok (.iload 4, 2) := by decide +kernel
theorem dX6_numbers_17 : decode cX6_numbers 17 = .ok (.idiv, 1) := by decide +kernel
