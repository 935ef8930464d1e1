theorem dX3_init_0 : decode cX3_init 0 = .ok (.aload_n 0, 1) := by decide +kernel
theorem dX3_init_1 : decode cX3_init 1 = .ok (.invokespecial 3, 3) := by decide +kernel
theorem dX3_init_4 : decode cX3_init 4 = .ok (.aload_n 0, 1) := by decide +kernel
theorem dX3_init_5 : decode cX3_init 5 = .ok (.new 9, 3) := by decide +kernel
theorem dX3_init_8 : decode cX3_init 8 = .ok (.dup, 1) := by decide +kernel
theorem dX3_init_9 : decode cX3_init 9 = .ok (.invokespecial 11, 3) := by decide +kernel
theorem dX3_init_12 : decode cX3_init 12 = .ok (.putfield 12, 3) := by decide +kernel
theorem dX3_init_15 : decode cX3_init 15 = .ok (.aload_n 0, 1) := by decide +kernel
theorem dX3_init_16 : decode cX3_init 16 = .ok (.iconst 0, 1) := by decide +kernel
theorem dX3_init_17 : decode cX3_init 17 = .ok (.putfield 18, 3) := by decide +kernel
theorem dX3_init_20 : decode cX3_init 20 = .ok (.aload_n 0, 1) := by decide +kernel
theorem dX3_init_21 : decode cX3_init 21 = .ok (.iconst 0, 1) := by decide +kernel
theorem dX3_init_22 : decode cX3_init 22 = .ok (.putfield 22, 3) := by decide +kernel
theorem dX3_init_25 : decode cX3_init 25 = .ok (.aload_n 0, 1) := by decide +kernel
theorem dX3_init_26 : decode cX3_init 26 = .ok (.iconst 0, 1) := by decide +kernel
theorem dX3_init_27 : decode cX3_init 27 = .ok (.putfield 25, 3) := by decide +kernel
theorem dX3_init_30 : decode cX3_init 30 = .ok (.aload_n 0, 1) := by decide +kernel
theorem dX3_init_31 : decode cX3_init 31 = .ok (.new 9, 3) := by decide +kernel
theorem dX3_init_34 : decode cX3_init 34 = .ok (.dup, 1) := by decide +kernel
theorem dX3_init_35 : decode cX3_init 35 = .ok (.invokespecial 11, 3) := by decide +kernel
theorem dX3_init_38 : decode cX3_init 38 = .ok (.putfield 29, 3) := by decide +kernel
theorem dX3_init_41 : decode cX3_init 41 = .ok (.aload_n 0, 1) := by decide +kernel
theorem dX3_init_42 : decode cX3_init 42 = .ok (.iconst 3, 1) := by decide +kernel
theorem dX3_init_43 : decode cX3_init 43 = .ok (.newarray .int, 2) := by decide +kernel
theorem dX3_init_45 : decode cX3_init 45 = .ok (.putfield 32, 3) := by decide +kernel
theorem dX3_init_48 : decode cX3_init 48 = .ok (.return_, 1) := by decide +kernel
theorem dX3_find_0 : decode cX3_find 0 = .ok (.aload_n 0, 1) := by decide +kernel
theorem dX3_find_1 : decode cX3_find 1 = .ok (.iconst 0, 1) := by decide +kernel
theorem dX3_find_2 : decode cX3_find 2 = .ok (.putfield 25, 3) := by decide +kernel
theorem dX3_find_5 : decode cX3_find 5 = .ok (.iconst 2, 1) := by decide +kernel
theorem dX3_find_6 : decode cX3_find 6 = .ok (.iload_n 2, 1) := by decide +kernel
theorem dX3_find_7 : decode cX3_find 7 = .ok (.imul, 1) := by decide +kernel
theorem dX3_find_8 : decode cX3_find 8 = .ok (.iconst 1, 1) := by decide +kernel
theorem dX3_find_9 : decode cX3_find 9 = .ok (.iadd, 1) := by decide +kernel
theorem dX3_find_10 : decode cX3_find 10 = .ok (.istore 4, 2) := by decide +kernel
theorem dX3_find_12 : decode cX3_find 12 = .ok (.iload 4, 2) := by decide +kernel
theorem dX3_find_14 : decode cX3_find 14 = .ok (.iload 4, 2) := by decide +kernel
theorem dX3_find_16 : decode cX3_find 16 = .ok (.imul, 1) := by decide +kernel
theorem dX3_find_17 : decode cX3_find 17 = .ok (.iload 4, 2) := by decide +kernel
theorem dX3_find_19 : decode cX3_find 19 = .ok (.imul, 1) := by decide +kernel
theorem dX3_find_20 : decode cX3_find 20 = .ok (.istore 5, 2) := by decide +kernel
theorem dX3_find_22 : decode cX3_find 22 = .ok (.iconst 0, 1) := by decide +kernel
theorem dX3_find_23 : decode cX3_find 23 = .ok (.istore 6, 2) := by decide +kernel
theorem dX3_find_25 : decode cX3_find 25 = .ok (.iload 6, 2) := by decide +kernel
theorem dX3_find_27 : decode cX3_find 27 = .ok (.iload 5, 2) := by decide +kernel
theorem dX3_find_29 : decode cX3_find 29 = .ok (.if_icmp .ge 72, 3) := by decide +kernel
theorem dX3_find_32 : decode cX3_find 32 = .ok (.aload_n 0, 1) := by decide +kernel
theorem dX3_find_33 : decode cX3_find 33 = .ok (.iconst 0, 1) := by decide +kernel
theorem dX3_find_34 : decode cX3_find 34 = .ok (.iload 6, 2) := by decide +kernel
theorem dX3_find_36 : decode cX3_find 36 = .ok (.iload_n 2, 1) := by decide +kernel
theorem dX3_find_37 : decode cX3_find 37 = .ok (.invokevirtual 36, 3) := by decide +kernel
theorem dX3_find_40 : decode cX3_find 40 = .ok (.aload_n 0, 1) := by decide +kernel
theorem dX3_find_41 : decode cX3_find 41 = .ok (.getfield 25, 3) := by decide +kernel
theorem dX3_find_44 : decode cX3_find 44 = .ok (.ifCond .eq 22, 3) := by decide +kernel
theorem dX3_find_47 : decode cX3_find 47 = .ok (.aload_n 0, 1) := by decide +kernel
theorem dX3_find_48 : decode cX3_find 48 = .ok (.getfield 29, 3) := by decide +kernel
theorem dX3_find_51 : decode cX3_find 51 = .ok (.aload_n 1, 1) := by decide +kernel
theorem dX3_find_52 : decode cX3_find 52 = .ok (.invokevirtual 40, 3) := by decide +kernel
theorem dX3_find_55 : decode cX3_find 55 = .ok (.aload_n 0, 1) := by decide +kernel
theorem dX3_find_56 : decode cX3_find 56 = .ok (.getfield 18, 3) := by decide +kernel
theorem dX3_find_59 : decode cX3_find 59 = .ok (.if_icmp .le 7, 3) := by decide +kernel
theorem dX3_find_62 : decode cX3_find 62 = .ok (.iconst 1, 1) := by decide +kernel
theorem dX3_find_63 : decode cX3_find 63 = .ok (.goto 4, 3) := by decide +kernel
theorem dX3_find_66 : decode cX3_find 66 = .ok (.iconst 0, 1) := by decide +kernel
theorem dX3_find_67 : decode cX3_find 67 = .ok (.istore 7, 2) := by decide +kernel
theorem dX3_find_69 : decode cX3_find 69 = .ok (.iload 7, 2) := by decide +kernel
theorem dX3_find_71 : decode cX3_find 71 = .ok (.ifCond .ne 24, 3) := by decide +kernel
theorem dX3_find_74 : decode cX3_find 74 = .ok (.aload_n 0, 1) := by decide +kernel
theorem dX3_find_75 : decode cX3_find 75 = .ok (.getfield 29, 3) := by decide +kernel
theorem dX3_find_78 : decode cX3_find 78 = .ok (.aload_n 1, 1) := by decide +kernel
theorem dX3_find_79 : decode cX3_find 79 = .ok (.invokevirtual 44, 3) := by decide +kernel
theorem dX3_find_82 : decode cX3_find 82 = .ok (.iconst (-1), 1) := by decide +kernel
theorem dX3_find_83 : decode cX3_find 83 = .ok (.if_icmp .ne 12, 3) := by decide +kernel
theorem dX3_find_86 : decode cX3_find 86 = .ok (.aload_n 0, 1) := by decide +kernel
theorem dX3_find_87 : decode cX3_find 87 = .ok (.aload_n 1, 1) := by decide +kernel
theorem dX3_find_88 : decode cX3_find 88 = .ok (.iload_n 2, 1) := by decide +kernel
theorem dX3_find_89 : decode cX3_find 89 = .ok (.iload_n 3, 1) := by decide +kernel
theorem dX3_find_90 : decode cX3_find 90 = .ok (.iload 5, 2) := by decide +kernel
theorem dX3_find_92 : decode cX3_find 92 = .ok (.invokevirtual 47, 3) := by decide +kernel
theorem dX3_find_95 : decode cX3_find 95 = .ok (.iinc 6 1, 3) := by decide +kernel
theorem dX3_find_98 : decode cX3_find 98 = .ok (.goto (-73), 3) := by decide +kernel
theorem dX3_find_101 : decode cX3_find 101 = .ok (.aload_n 0, 1) := by decide +kernel
theorem dX3_find_102 : decode cX3_find 102 = .ok (.getfield 25, 3) := by decide +kernel
theorem dX3_find_105 : decode cX3_find 105 = .ok (.ireturn, 1) := by decide +kernel
theorem dX3_tryLines_0 : decode cX3_tryLines 0 = .ok (.iload 4, 2) := by decide +kernel
theorem dX3_tryLines_2 : decode cX3_tryLines 2 = .ok (.iconst 2, 1) := by decide +kernel
theorem dX3_tryLines_3 : decode cX3_tryLines 3 = .ok (.idiv, 1) := by decide +kernel
theorem dX3_tryLines_4 : decode cX3_tryLines 4 = .ok (.istore 5, 2) := by decide +kernel
theorem dX3_tryLines_6 : decode cX3_tryLines 6 = .ok (.iload_n 3, 1) := by decide +kernel
theorem dX3_tryLines_7 : decode cX3_tryLines 7 = .ok (.iconst 1, 1) := by decide +kernel
theorem dX3_tryLines_8 : decode cX3_tryLines 8 = .ok (.if_icmp .ne 8, 3) := by decide +kernel
theorem dX3_tryLines_11 : decode cX3_tryLines 11 = .ok (.iload 5, 2) := by decide +kernel
theorem dX3_tryLines_13 : decode cX3_tryLines 13 = .ok (.goto 4, 3) := by decide +kernel
theorem dX3_tryLines_16 : decode cX3_tryLines 16 = .ok (.iconst 0, 1) := by decide +kernel
theorem dX3_tryLines_17 : decode cX3_tryLines 17 = .ok (.istore 6, 2) := by decide +kernel
theorem dX3_tryLines_19 : decode cX3_tryLines 19 = .ok (.iload_n 3, 1) := by decide +kernel
theorem dX3_tryLines_20 : decode cX3_tryLines 20 = .ok (.iconst 1, 1) := by decide +kernel
theorem dX3_tryLines_21 : decode cX3_tryLines 21 = .ok (.if_icmp .ne 8, 3) := by decide +kernel
theorem dX3_tryLines_24 : decode cX3_tryLines 24 = .ok (.iload 5, 2) := by decide +kernel
theorem dX3_tryLines_26 : decode cX3_tryLines 26 = .ok (.goto 7, 3) := by decide +kernel
theorem dX3_tryLines_29 : decode cX3_tryLines 29 = .ok (.iload 4, 2) := by decide +kernel
theorem dX3_tryLines_31 : decode cX3_tryLines 31 = .ok (.iconst 1, 1) := by decide +kernel
theorem dX3_tryLines_32 : decode cX3_tryLines 32 = .ok (.isub, 1) := by decide +kernel
theorem dX3_tryLines_33 : decode cX3_tryLines 33 = .ok (.istore 7, 2) := by decide +kernel
theorem dX3_tryLines_35 : decode cX3_tryLines 35 = .ok (.aload_n 0, 1) := by decide +kernel
theorem dX3_tryLines_36 : decode cX3_tryLines 36 = .ok (.getfield 29, 3) := by decide +kernel
theorem dX3_tryLines_39 : decode cX3_tryLines 39 = .ok (.aload_n 1, 1) := by decide +kernel
theorem dX3_tryLines_40 : decode cX3_tryLines 40 = .ok (.invokevirtual 40, 3) := by decide +kernel
theorem dX3_tryLines_43 : decode cX3_tryLines 43 = .ok (.istore 8, 2) := by decide +kernel
theorem dX3_tryLines_45 : decode cX3_tryLines 45 = .ok (.iconst 0, 1) := by decide +kernel
theorem dX3_tryLines_46 : decode cX3_tryLines 46 = .ok (.istore 9, 2) := by decide +kernel
theorem dX3_tryLines_48 : decode cX3_tryLines 48 = .ok (.iload 9, 2) := by decide +kernel
theorem dX3_tryLines_50 : decode cX3_tryLines 50 = .ok (.iload 4, 2) := by decide +kernel
theorem dX3_tryLines_52 : decode cX3_tryLines 52 = .ok (.if_icmp .ge 68, 3) := by decide +kernel
theorem dX3_tryLines_55 : decode cX3_tryLines 55 = .ok (.aload_n 0, 1) := by decide +kernel
theorem dX3_tryLines_56 : decode cX3_tryLines 56 = .ok (.iconst 1, 1) := by decide +kernel
theorem dX3_tryLines_57 : decode cX3_tryLines 57 = .ok (.iload 9, 2) := by decide +kernel
theorem dX3_tryLines_59 : decode cX3_tryLines 59 = .ok (.iload_n 2, 1) := by decide +kernel
theorem dX3_tryLines_60 : decode cX3_tryLines 60 = .ok (.invokevirtual 36, 3) := by decide +kernel
theorem dX3_tryLines_63 : decode cX3_tryLines 63 = .ok (.iload 6, 2) := by decide +kernel
theorem dX3_tryLines_65 : decode cX3_tryLines 65 = .ok (.istore 10, 2) := by decide +kernel
theorem dX3_tryLines_67 : decode cX3_tryLines 67 = .ok (.iload 10, 2) := by decide +kernel
theorem dX3_tryLines_69 : decode cX3_tryLines 69 = .ok (.iload 7, 2) := by decide +kernel
theorem dX3_tryLines_71 : decode cX3_tryLines 71 = .ok (.if_icmp .gt 43, 3) := by decide +kernel
theorem dX3_tryLines_74 : decode cX3_tryLines 74 = .ok (.iload 9, 2) := by decide +kernel
theorem dX3_tryLines_76 : decode cX3_tryLines 76 = .ok (.iload 5, 2) := by decide +kernel
theorem dX3_tryLines_78 : decode cX3_tryLines 78 = .ok (.if_icmp .eq 36, 3) := by decide +kernel
theorem dX3_tryLines_81 : decode cX3_tryLines 81 = .ok (.iload_n 3, 1) := by decide +kernel
theorem dX3_tryLines_82 : decode cX3_tryLines 82 = .ok (.iconst 1, 1) := by decide +kernel
theorem dX3_tryLines_83 : decode cX3_tryLines 83 = .ok (.if_icmp .eq 10, 3) := by decide +kernel
theorem dX3_tryLines_86 : decode cX3_tryLines 86 = .ok (.iload 10, 2) := by decide +kernel
theorem dX3_tryLines_88 : decode cX3_tryLines 88 = .ok (.iload 5, 2) := by decide +kernel
theorem dX3_tryLines_90 : decode cX3_tryLines 90 = .ok (.if_icmp .eq 18, 3) := by decide +kernel
theorem dX3_tryLines_93 : decode cX3_tryLines 93 = .ok (.aload_n 0, 1) := by decide +kernel
theorem dX3_tryLines_94 : decode cX3_tryLines 94 = .ok (.iconst 2, 1) := by decide +kernel
theorem dX3_tryLines_95 : decode cX3_tryLines 95 = .ok (.iload 10, 2) := by decide +kernel
theorem dX3_tryLines_97 : decode cX3_tryLines 97 = .ok (.iload_n 2, 1) := by decide +kernel
theorem dX3_tryLines_98 : decode cX3_tryLines 98 = .ok (.invokevirtual 36, 3) := by decide +kernel
theorem dX3_tryLines_101 : decode cX3_tryLines 101 = .ok (.aload_n 0, 1) := by decide +kernel
theorem dX3_tryLines_102 : decode cX3_tryLines 102 = .ok (.aload_n 1, 1) := by decide +kernel
theorem dX3_tryLines_103 : decode cX3_tryLines 103 = .ok (.iload 8, 2) := by decide +kernel
theorem dX3_tryLines_105 : decode cX3_tryLines 105 = .ok (.invokevirtual 51, 3) := by decide +kernel
theorem dX3_tryLines_108 : decode cX3_tryLines 108 = .ok (.iinc 10 1, 3) := by decide +kernel
theorem dX3_tryLines_111 : decode cX3_tryLines 111 = .ok (.goto (-44), 3) := by decide +kernel
theorem dX3_tryLines_114 : decode cX3_tryLines 114 = .ok (.iinc 9 1, 3) := by decide +kernel
theorem dX3_tryLines_117 : decode cX3_tryLines 117 = .ok (.goto (-69), 3) := by decide +kernel
theorem dX3_tryLines_120 : decode cX3_tryLines 120 = .ok (.return_, 1) := by decide +kernel
theorem dX3_consider_0 : decode cX3_consider 0 = .ok (.aload_n 0, 1) := by decide +kernel
theorem dX3_consider_1 : decode cX3_consider 1 = .ok (.getfield 29, 3) := by decide +kernel
theorem dX3_consider_4 : decode cX3_consider 4 = .ok (.aload_n 1, 1) := by decide +kernel
theorem dX3_consider_5 : decode cX3_consider 5 = .ok (.invokevirtual 55, 3) := by decide +kernel
theorem dX3_consider_8 : decode cX3_consider 8 = .ok (.iconst (-1), 1) := by decide +kernel
theorem dX3_consider_9 : decode cX3_consider 9 = .ok (.if_icmp .eq 4, 3) := by decide +kernel
theorem dX3_consider_12 : decode cX3_consider 12 = .ok (.return_, 1) := by decide +kernel
theorem dX3_consider_13 : decode cX3_consider 13 = .ok (.aload_n 0, 1) := by decide +kernel
theorem dX3_consider_14 : decode cX3_consider 14 = .ok (.aload_n 1, 1) := by decide +kernel
theorem dX3_consider_15 : decode cX3_consider 15 = .ok (.invokevirtual 58, 3) := by decide +kernel
theorem dX3_consider_18 : decode cX3_consider 18 = .ok (.istore_n 3, 1) := by decide +kernel
theorem dX3_consider_19 : decode cX3_consider 19 = .ok (.aload_n 0, 1) := by decide +kernel
theorem dX3_consider_20 : decode cX3_consider 20 = .ok (.getfield 25, 3) := by decide +kernel
theorem dX3_consider_23 : decode cX3_consider 23 = .ok (.ifCond .eq 19, 3) := by decide +kernel
theorem dX3_consider_26 : decode cX3_consider 26 = .ok (.iload_n 2, 1) := by decide +kernel
theorem dX3_consider_27 : decode cX3_consider 27 = .ok (.aload_n 0, 1) := by decide +kernel
theorem dX3_consider_28 : decode cX3_consider 28 = .ok (.getfield 18, 3) := by decide +kernel
theorem dX3_consider_31 : decode cX3_consider 31 = .ok (.if_icmp .lt 11, 3) := by decide +kernel
theorem dX3_consider_34 : decode cX3_consider 34 = .ok (.iload_n 3, 1) := by decide +kernel
theorem dX3_consider_35 : decode cX3_consider 35 = .ok (.aload_n 0, 1) := by decide +kernel
theorem dX3_consider_36 : decode cX3_consider 36 = .ok (.getfield 22, 3) := by decide +kernel
theorem dX3_consider_39 : decode cX3_consider 39 = .ok (.if_icmp .ge 7, 3) := by decide +kernel
theorem dX3_consider_42 : decode cX3_consider 42 = .ok (.iconst 1, 1) := by decide +kernel
theorem dX3_consider_43 : decode cX3_consider 43 = .ok (.goto 4, 3) := by decide +kernel
theorem dX3_consider_46 : decode cX3_consider 46 = .ok (.iconst 0, 1) := by decide +kernel
theorem dX3_consider_47 : decode cX3_consider 47 = .ok (.istore 4, 2) := by decide +kernel
theorem dX3_consider_49 : decode cX3_consider 49 = .ok (.iload 4, 2) := by decide +kernel
theorem dX3_consider_51 : decode cX3_consider 51 = .ok (.ifCond .eq 38, 3) := by decide +kernel
theorem dX3_consider_54 : decode cX3_consider 54 = .ok (.aload_n 0, 1) := by decide +kernel
theorem dX3_consider_55 : decode cX3_consider 55 = .ok (.aload_n 1, 1) := by decide +kernel
theorem dX3_consider_56 : decode cX3_consider 56 = .ok (.iload_n 3, 1) := by decide +kernel
theorem dX3_consider_57 : decode cX3_consider 57 = .ok (.invokevirtual 61, 3) := by decide +kernel
theorem dX3_consider_60 : decode cX3_consider 60 = .ok (.ifCond .eq 29, 3) := by decide +kernel
theorem dX3_consider_63 : decode cX3_consider 63 = .ok (.aload_n 0, 1) := by decide +kernel
theorem dX3_consider_64 : decode cX3_consider 64 = .ok (.iconst 1, 1) := by decide +kernel
theorem dX3_consider_65 : decode cX3_consider 65 = .ok (.putfield 25, 3) := by decide +kernel
theorem dX3_consider_68 : decode cX3_consider 68 = .ok (.aload_n 0, 1) := by decide +kernel
theorem dX3_consider_69 : decode cX3_consider 69 = .ok (.iload_n 2, 1) := by decide +kernel
theorem dX3_consider_70 : decode cX3_consider 70 = .ok (.putfield 18, 3) := by decide +kernel
theorem dX3_consider_73 : decode cX3_consider 73 = .ok (.aload_n 0, 1) := by decide +kernel
theorem dX3_consider_74 : decode cX3_consider 74 = .ok (.iload_n 3, 1) := by decide +kernel
theorem dX3_consider_75 : decode cX3_consider 75 = .ok (.putfield 22, 3) := by decide +kernel
theorem dX3_consider_78 : decode cX3_consider 78 = .ok (.aload_n 0, 1) := by decide +kernel
theorem dX3_consider_79 : decode cX3_consider 79 = .ok (.getfield 12, 3) := by decide +kernel
theorem dX3_consider_82 : decode cX3_consider 82 = .ok (.aload_n 0, 1) := by decide +kernel
theorem dX3_consider_83 : decode cX3_consider 83 = .ok (.getfield 29, 3) := by decide +kernel
theorem dX3_consider_86 : decode cX3_consider 86 = .ok (.invokevirtual 65, 3) := by decide +kernel
theorem dX3_consider_89 : decode cX3_consider 89 = .ok (.return_, 1) := by decide +kernel
theorem dX3_spell_0 : decode cX3_spell 0 = .ok (.iconst 1, 1) := by decide +kernel
theorem dX3_spell_1 : decode cX3_spell 1 = .ok (.iconst 2, 1) := by decide +kernel
theorem dX3_spell_2 : decode cX3_spell 2 = .ok (.iload_n 3, 1) := by decide +kernel
theorem dX3_spell_3 : decode cX3_spell 3 = .ok (.imul, 1) := by decide +kernel
theorem dX3_spell_4 : decode cX3_spell 4 = .ok (.iconst 1, 1) := by decide +kernel
theorem dX3_spell_5 : decode cX3_spell 5 = .ok (.iadd, 1) := by decide +kernel
theorem dX3_spell_6 : decode cX3_spell 6 = .ok (.invokestatic 69, 3) := by decide +kernel
theorem dX3_spell_9 : decode cX3_spell 9 = .ok (.istore 4, 2) := by decide +kernel
theorem dX3_spell_11 : decode cX3_spell 11 = .ok (.aload_n 0, 1) := by decide +kernel
theorem dX3_spell_12 : decode cX3_spell 12 = .ok (.getfield 29, 3) := by decide +kernel
theorem dX3_spell_15 : decode cX3_spell 15 = .ok (.iload_n 1, 1) := by decide +kernel
theorem dX3_spell_16 : decode cX3_spell 16 = .ok (.iload_n 2, 1) := by decide +kernel
theorem dX3_spell_17 : decode cX3_spell 17 = .ok (.iload 4, 2) := by decide +kernel
theorem dX3_spell_19 : decode cX3_spell 19 = .ok (.iload 4, 2) := by decide +kernel
theorem dX3_spell_21 : decode cX3_spell 21 = .ok (.imul, 1) := by decide +kernel
theorem dX3_spell_22 : decode cX3_spell 22 = .ok (.idiv, 1) := by decide +kernel
theorem dX3_spell_23 : decode cX3_spell 23 = .ok (.iload_n 3, 1) := by decide +kernel
theorem dX3_spell_24 : decode cX3_spell 24 = .ok (.isub, 1) := by decide +kernel
theorem dX3_spell_25 : decode cX3_spell 25 = .ok (.iload_n 2, 1) := by decide +kernel
theorem dX3_spell_26 : decode cX3_spell 26 = .ok (.iload 4, 2) := by decide +kernel
theorem dX3_spell_28 : decode cX3_spell 28 = .ok (.idiv, 1) := by decide +kernel
theorem dX3_spell_29 : decode cX3_spell 29 = .ok (.iload 4, 2) := by decide +kernel
theorem dX3_spell_31 : decode cX3_spell 31 = .ok (.irem, 1) := by decide +kernel
theorem dX3_spell_32 : decode cX3_spell 32 = .ok (.iload_n 3, 1) := by decide +kernel
theorem dX3_spell_33 : decode cX3_spell 33 = .ok (.isub, 1) := by decide +kernel
theorem dX3_spell_34 : decode cX3_spell 34 = .ok (.iload_n 2, 1) := by decide +kernel
theorem dX3_spell_35 : decode cX3_spell 35 = .ok (.iload 4, 2) := by decide +kernel
theorem dX3_spell_37 : decode cX3_spell 37 = .ok (.irem, 1) := by decide +kernel
theorem dX3_spell_38 : decode cX3_spell 38 = .ok (.iload_n 3, 1) := by decide +kernel
theorem dX3_spell_39 : decode cX3_spell 39 = .ok (.isub, 1) := by decide +kernel
theorem dX3_spell_40 : decode cX3_spell 40 = .ok (.invokevirtual 75, 3) := by decide +kernel
theorem dX3_spell_43 : decode cX3_spell 43 = .ok (.return_, 1) := by decide +kernel
theorem dX3_partsAll_0 : decode cX3_partsAll 0 = .ok (.aload_n 0, 1) := by decide +kernel
theorem dX3_partsAll_1 : decode cX3_partsAll 1 = .ok (.iconst 0, 1) := by decide +kernel
theorem dX3_partsAll_2 : decode cX3_partsAll 2 = .ok (.iconst 1, 1) := by decide +kernel
theorem dX3_partsAll_3 : decode cX3_partsAll 3 = .ok (.invokevirtual 79, 3) := by decide +kernel
theorem dX3_partsAll_6 : decode cX3_partsAll 6 = .ok (.ifCond .ne 17, 3) := by decide +kernel
theorem dX3_partsAll_9 : decode cX3_partsAll 9 = .ok (.iload_n 2, 1) := by decide +kernel
theorem dX3_partsAll_10 : decode cX3_partsAll 10 = .ok (.aload_n 1, 1) := by decide +kernel
theorem dX3_partsAll_11 : decode cX3_partsAll 11 = .ok (.getfield 83, 3) := by decide +kernel
theorem dX3_partsAll_14 : decode cX3_partsAll 14 = .ok (.if_icmp .ne 7, 3) := by decide +kernel
theorem dX3_partsAll_17 : decode cX3_partsAll 17 = .ok (.iconst 1, 1) := by decide +kernel
theorem dX3_partsAll_18 : decode cX3_partsAll 18 = .ok (.goto 4, 3) := by decide +kernel
theorem dX3_partsAll_21 : decode cX3_partsAll 21 = .ok (.iconst 0, 1) := by decide +kernel
theorem dX3_partsAll_22 : decode cX3_partsAll 22 = .ok (.ireturn, 1) := by decide +kernel
theorem dX3_partsAll_23 : decode cX3_partsAll 23 = .ok (.aload_n 0, 1) := by decide +kernel
theorem dX3_partsAll_24 : decode cX3_partsAll 24 = .ok (.aload_n 1, 1) := by decide +kernel
theorem dX3_partsAll_25 : decode cX3_partsAll 25 = .ok (.invokevirtual 88, 3) := by decide +kernel
theorem dX3_partsAll_28 : decode cX3_partsAll 28 = .ok (.ifCond .eq 32, 3) := by decide +kernel
theorem dX3_partsAll_31 : decode cX3_partsAll 31 = .ok (.aload_n 0, 1) := by decide +kernel
theorem dX3_partsAll_32 : decode cX3_partsAll 32 = .ok (.getfield 29, 3) := by decide +kernel
theorem dX3_partsAll_35 : decode cX3_partsAll 35 = .ok (.iconst 2, 1) := by decide +kernel
theorem dX3_partsAll_36 : decode cX3_partsAll 36 = .ok (.aload_n 0, 1) := by decide +kernel
theorem dX3_partsAll_37 : decode cX3_partsAll 37 = .ok (.getfield 32, 3) := by decide +kernel
theorem dX3_partsAll_40 : decode cX3_partsAll 40 = .ok (.iconst 0, 1) := by decide +kernel
theorem dX3_partsAll_41 : decode cX3_partsAll 41 = .ok (.iaload, 1) := by decide +kernel
theorem dX3_partsAll_42 : decode cX3_partsAll 42 = .ok (.aload_n 0, 1) := by decide +kernel
theorem dX3_partsAll_43 : decode cX3_partsAll 43 = .ok (.getfield 32, 3) := by decide +kernel
theorem dX3_partsAll_46 : decode cX3_partsAll 46 = .ok (.iconst 1, 1) := by decide +kernel
theorem dX3_partsAll_47 : decode cX3_partsAll 47 = .ok (.iaload, 1) := by decide +kernel
theorem dX3_partsAll_48 : decode cX3_partsAll 48 = .ok (.aload_n 0, 1) := by decide +kernel
theorem dX3_partsAll_49 : decode cX3_partsAll 49 = .ok (.getfield 32, 3) := by decide +kernel
theorem dX3_partsAll_52 : decode cX3_partsAll 52 = .ok (.iconst 2, 1) := by decide +kernel
theorem dX3_partsAll_53 : decode cX3_partsAll 53 = .ok (.iaload, 1) := by decide +kernel
theorem dX3_partsAll_54 : decode cX3_partsAll 54 = .ok (.invokevirtual 91, 3) := by decide +kernel
theorem dX3_partsAll_57 : decode cX3_partsAll 57 = .ok (.ifCond .eq 7, 3) := by decide +kernel
theorem dX3_partsAll_60 : decode cX3_partsAll 60 = .ok (.iconst 1, 1) := by decide +kernel
theorem dX3_partsAll_61 : decode cX3_partsAll 61 = .ok (.goto 4, 3) := by decide +kernel
theorem dX3_partsAll_64 : decode cX3_partsAll 64 = .ok (.iconst 0, 1) := by decide +kernel
theorem dX3_partsAll_65 : decode cX3_partsAll 65 = .ok (.ireturn, 1) := by decide +kernel
theorem dX3_countCells_0 : decode cX3_countCells 0 = .ok (.aload_n 0, 1) := by decide +kernel
theorem dX3_countCells_1 : decode cX3_countCells 1 = .ok (.iconst 1, 1) := by decide +kernel
theorem dX3_countCells_2 : decode cX3_countCells 2 = .ok (.iconst 2, 1) := by decide +kernel
theorem dX3_countCells_3 : decode cX3_countCells 3 = .ok (.invokevirtual 79, 3) := by decide +kernel
theorem dX3_countCells_6 : decode cX3_countCells 6 = .ok (.ifCond .eq 16, 3) := by decide +kernel
theorem dX3_countCells_9 : decode cX3_countCells 9 = .ok (.aload_n 1, 1) := by decide +kernel
theorem dX3_countCells_10 : decode cX3_countCells 10 = .ok (.getfield 83, 3) := by decide +kernel
theorem dX3_countCells_13 : decode cX3_countCells 13 = .ok (.aload_n 0, 1) := by decide +kernel
theorem dX3_countCells_14 : decode cX3_countCells 14 = .ok (.aload_n 1, 1) := by decide +kernel
theorem dX3_countCells_15 : decode cX3_countCells 15 = .ok (.invokevirtual 88, 3) := by decide +kernel
theorem dX3_countCells_18 : decode cX3_countCells 18 = .ok (.isub, 1) := by decide +kernel
theorem dX3_countCells_19 : decode cX3_countCells 19 = .ok (.goto 8, 3) := by decide +kernel
theorem dX3_countCells_22 : decode cX3_countCells 22 = .ok (.aload_n 0, 1) := by decide +kernel
theorem dX3_countCells_23 : decode cX3_countCells 23 = .ok (.aload_n 1, 1) := by decide +kernel
theorem dX3_countCells_24 : decode cX3_countCells 24 = .ok (.invokevirtual 95, 3) := by decide +kernel
theorem dX3_countCells_27 : decode cX3_countCells 27 = .ok (.ireturn, 1) := by decide +kernel
theorem dX3_findAcross_0 : decode cX3_findAcross 0 = .ok (.aload_n 0, 1) := by decide +kernel
theorem dX3_findAcross_1 : decode cX3_findAcross 1 = .ok (.getfield 29, 3) := by decide +kernel
theorem dX3_findAcross_4 : decode cX3_findAcross 4 = .ok (.getfield 98, 3) := by decide +kernel
theorem dX3_findAcross_7 : decode cX3_findAcross 7 = .ok (.astore_n 3, 1) := by decide +kernel
theorem dX3_findAcross_8 : decode cX3_findAcross 8 = .ok (.iconst 3, 1) := by decide +kernel
theorem dX3_findAcross_9 : decode cX3_findAcross 9 = .ok (.iload_n 1, 1) := by decide +kernel
theorem dX3_findAcross_10 : decode cX3_findAcross 10 = .ok (.imul, 1) := by decide +kernel
theorem dX3_findAcross_11 : decode cX3_findAcross 11 = .ok (.istore 4, 2) := by decide +kernel
theorem dX3_findAcross_13 : decode cX3_findAcross 13 = .ok (.iconst 3, 1) := by decide +kernel
theorem dX3_findAcross_14 : decode cX3_findAcross 14 = .ok (.iload_n 2, 1) := by decide +kernel
theorem dX3_findAcross_15 : decode cX3_findAcross 15 = .ok (.imul, 1) := by decide +kernel
theorem dX3_findAcross_16 : decode cX3_findAcross 16 = .ok (.istore 5, 2) := by decide +kernel
theorem dX3_findAcross_18 : decode cX3_findAcross 18 = .ok (.aload_n 3, 1) := by decide +kernel
theorem dX3_findAcross_19 : decode cX3_findAcross 19 = .ok (.iload 4, 2) := by decide +kernel
theorem dX3_findAcross_21 : decode cX3_findAcross 21 = .ok (.iconst 1, 1) := by decide +kernel
theorem dX3_findAcross_22 : decode cX3_findAcross 22 = .ok (.iadd, 1) := by decide +kernel
theorem dX3_findAcross_23 : decode cX3_findAcross 23 = .ok (.iaload, 1) := by decide +kernel
theorem dX3_findAcross_24 : decode cX3_findAcross 24 = .ok (.aload_n 3, 1) := by decide +kernel
theorem dX3_findAcross_25 : decode cX3_findAcross 25 = .ok (.iload 5, 2) := by decide +kernel
theorem dX3_findAcross_27 : decode cX3_findAcross 27 = .ok (.iconst 2, 1) := by decide +kernel
theorem dX3_findAcross_28 : decode cX3_findAcross 28 = .ok (.iadd, 1) := by decide +kernel
theorem dX3_findAcross_29 : decode cX3_findAcross 29 = .ok (.iaload, 1) := by decide +kernel
theorem dX3_findAcross_30 : decode cX3_findAcross 30 = .ok (.imul, 1) := by decide +kernel
theorem dX3_findAcross_31 : decode cX3_findAcross 31 = .ok (.aload_n 3, 1) := by decide +kernel
theorem dX3_findAcross_32 : decode cX3_findAcross 32 = .ok (.iload 4, 2) := by decide +kernel
theorem dX3_findAcross_34 : decode cX3_findAcross 34 = .ok (.iconst 2, 1) := by decide +kernel
theorem dX3_findAcross_35 : decode cX3_findAcross 35 = .ok (.iadd, 1) := by decide +kernel
theorem dX3_findAcross_36 : decode cX3_findAcross 36 = .ok (.iaload, 1) := by decide +kernel
theorem dX3_findAcross_37 : decode cX3_findAcross 37 = .ok (.aload_n 3, 1) := by decide +kernel
theorem dX3_findAcross_38 : decode cX3_findAcross 38 = .ok (.iload 5, 2) := by decide +kernel
theorem dX3_findAcross_40 : decode cX3_findAcross 40 = .ok (.iconst 1, 1) := by decide +kernel
theorem dX3_findAcross_41 : decode cX3_findAcross 41 = .ok (.iadd, 1) := by decide +kernel
theorem dX3_findAcross_42 : decode cX3_findAcross 42 = .ok (.iaload, 1) := by decide +kernel
theorem dX3_findAcross_43 : decode cX3_findAcross 43 = .ok (.imul, 1) := by decide +kernel
theorem dX3_findAcross_44 : decode cX3_findAcross 44 = .ok (.isub, 1) := by decide +kernel
theorem dX3_findAcross_45 : decode cX3_findAcross 45 = .ok (.istore 6, 2) := by decide +kernel
theorem dX3_findAcross_47 : decode cX3_findAcross 47 = .ok (.aload_n 3, 1) := by decide +kernel
theorem dX3_findAcross_48 : decode cX3_findAcross 48 = .ok (.iload 4, 2) := by decide +kernel
theorem dX3_findAcross_50 : decode cX3_findAcross 50 = .ok (.iconst 2, 1) := by decide +kernel
theorem dX3_findAcross_51 : decode cX3_findAcross 51 = .ok (.iadd, 1) := by decide +kernel
theorem dX3_findAcross_52 : decode cX3_findAcross 52 = .ok (.iaload, 1) := by decide +kernel
theorem dX3_findAcross_53 : decode cX3_findAcross 53 = .ok (.aload_n 3, 1) := by decide +kernel
theorem dX3_findAcross_54 : decode cX3_findAcross 54 = .ok (.iload 5, 2) := by decide +kernel
theorem dX3_findAcross_56 : decode cX3_findAcross 56 = .ok (.iaload, 1) := by decide +kernel
theorem dX3_findAcross_57 : decode cX3_findAcross 57 = .ok (.imul, 1) := by decide +kernel
theorem dX3_findAcross_58 : decode cX3_findAcross 58 = .ok (.aload_n 3, 1) := by decide +kernel
theorem dX3_findAcross_59 : decode cX3_findAcross 59 = .ok (.iload 4, 2) := by decide +kernel
theorem dX3_findAcross_61 : decode cX3_findAcross 61 = .ok (.iaload, 1) := by decide +kernel
theorem dX3_findAcross_62 : decode cX3_findAcross 62 = .ok (.aload_n 3, 1) := by decide +kernel
theorem dX3_findAcross_63 : decode cX3_findAcross 63 = .ok (.iload 5, 2) := by decide +kernel
theorem dX3_findAcross_65 : decode cX3_findAcross 65 = .ok (.iconst 2, 1) := by decide +kernel
theorem dX3_findAcross_66 : decode cX3_findAcross 66 = .ok (.iadd, 1) := by decide +kernel
theorem dX3_findAcross_67 : decode cX3_findAcross 67 = .ok (.iaload, 1) := by decide +kernel
theorem dX3_findAcross_68 : decode cX3_findAcross 68 = .ok (.imul, 1) := by decide +kernel
theorem dX3_findAcross_69 : decode cX3_findAcross 69 = .ok (.isub, 1) := by decide +kernel
theorem dX3_findAcross_70 : decode cX3_findAcross 70 = .ok (.istore 7, 2) := by decide +kernel
theorem dX3_findAcross_72 : decode cX3_findAcross 72 = .ok (.aload_n 3, 1) := by decide +kernel
theorem dX3_findAcross_73 : decode cX3_findAcross 73 = .ok (.iload 4, 2) := by decide +kernel
theorem dX3_findAcross_75 : decode cX3_findAcross 75 = .ok (.iaload, 1) := by decide +kernel
theorem dX3_findAcross_76 : decode cX3_findAcross 76 = .ok (.aload_n 3, 1) := by decide +kernel
theorem dX3_findAcross_77 : decode cX3_findAcross 77 = .ok (.iload 5, 2) := by decide +kernel
theorem dX3_findAcross_79 : decode cX3_findAcross 79 = .ok (.iconst 1, 1) := by decide +kernel
theorem dX3_findAcross_80 : decode cX3_findAcross 80 = .ok (.iadd, 1) := by decide +kernel
theorem dX3_findAcross_81 : decode cX3_findAcross 81 = .ok (.iaload, 1) := by decide +kernel
theorem dX3_findAcross_82 : decode cX3_findAcross 82 = .ok (.imul, 1) := by decide +kernel
theorem dX3_findAcross_83 : decode cX3_findAcross 83 = .ok (.aload_n 3, 1) := by decide +kernel
theorem dX3_findAcross_84 : decode cX3_findAcross 84 = .ok (.iload 4, 2) := by decide +kernel
theorem dX3_findAcross_86 : decode cX3_findAcross 86 = .ok (.iconst 1, 1) := by decide +kernel
theorem dX3_findAcross_87 : decode cX3_findAcross 87 = .ok (.iadd, 1) := by decide +kernel
theorem dX3_findAcross_88 : decode cX3_findAcross 88 = .ok (.iaload, 1) := by decide +kernel
theorem dX3_findAcross_89 : decode cX3_findAcross 89 = .ok (.aload_n 3, 1) := by decide +kernel
theorem dX3_findAcross_90 : decode cX3_findAcross 90 = .ok (.iload 5, 2) := by decide +kernel
theorem dX3_findAcross_92 : decode cX3_findAcross 92 = .ok (.iaload, 1) := by decide +kernel
theorem dX3_findAcross_93 : decode cX3_findAcross 93 = .ok (.imul, 1) := by decide +kernel
theorem dX3_findAcross_94 : decode cX3_findAcross 94 = .ok (.isub, 1) := by decide +kernel
theorem dX3_findAcross_95 : decode cX3_findAcross 95 = .ok (.istore 8, 2) := by decide +kernel
theorem dX3_findAcross_97 : decode cX3_findAcross 97 = .ok (.iload 6, 2) := by decide +kernel
theorem dX3_findAcross_99 : decode cX3_findAcross 99 = .ok (.invokestatic 101, 3) := by decide +kernel
theorem dX3_findAcross_102 : decode cX3_findAcross 102 = .ok (.iload 7, 2) := by decide +kernel
theorem dX3_findAcross_104 : decode cX3_findAcross 104 = .ok (.invokestatic 101, 3) := by decide +kernel
theorem dX3_findAcross_107 : decode cX3_findAcross 107 = .ok (.iload 8, 2) := by decide +kernel
theorem dX3_findAcross_109 : decode cX3_findAcross 109 = .ok (.invokestatic 101, 3) := by decide +kernel
theorem dX3_findAcross_112 : decode cX3_findAcross 112 = .ok (.invokestatic 105, 3) := by decide +kernel
theorem dX3_findAcross_115 : decode cX3_findAcross 115 = .ok (.invokestatic 105, 3) := by decide +kernel
theorem dX3_findAcross_118 : decode cX3_findAcross 118 = .ok (.istore 9, 2) := by decide +kernel
theorem dX3_findAcross_120 : decode cX3_findAcross 120 = .ok (.iload 9, 2) := by decide +kernel
theorem dX3_findAcross_122 : decode cX3_findAcross 122 = .ok (.ifCond .ne 5, 3) := by decide +kernel
theorem dX3_findAcross_125 : decode cX3_findAcross 125 = .ok (.iconst 0, 1) := by decide +kernel
theorem dX3_findAcross_126 : decode cX3_findAcross 126 = .ok (.ireturn, 1) := by decide +kernel
theorem dX3_findAcross_127 : decode cX3_findAcross 127 = .ok (.aload_n 0, 1) := by decide +kernel
theorem dX3_findAcross_128 : decode cX3_findAcross 128 = .ok (.getfield 32, 3) := by decide +kernel
theorem dX3_findAcross_131 : decode cX3_findAcross 131 = .ok (.iconst 0, 1) := by decide +kernel
theorem dX3_findAcross_132 : decode cX3_findAcross 132 = .ok (.iload 6, 2) := by decide +kernel
theorem dX3_findAcross_134 : decode cX3_findAcross 134 = .ok (.iload 9, 2) := by decide +kernel
theorem dX3_findAcross_136 : decode cX3_findAcross 136 = .ok (.idiv, 1) := by decide +kernel
theorem dX3_findAcross_137 : decode cX3_findAcross 137 = .ok (.iastore, 1) := by decide +kernel
theorem dX3_findAcross_138 : decode cX3_findAcross 138 = .ok (.aload_n 0, 1) := by decide +kernel
theorem dX3_findAcross_139 : decode cX3_findAcross 139 = .ok (.getfield 32, 3) := by decide +kernel
theorem dX3_findAcross_142 : decode cX3_findAcross 142 = .ok (.iconst 1, 1) := by decide +kernel
theorem dX3_findAcross_143 : decode cX3_findAcross 143 = .ok (.iload 7, 2) := by decide +kernel
theorem dX3_findAcross_145 : decode cX3_findAcross 145 = .ok (.iload 9, 2) := by decide +kernel
theorem dX3_findAcross_147 : decode cX3_findAcross 147 = .ok (.idiv, 1) := by decide +kernel
theorem dX3_findAcross_148 : decode cX3_findAcross 148 = .ok (.iastore, 1) := by decide +kernel
theorem dX3_findAcross_149 : decode cX3_findAcross 149 = .ok (.aload_n 0, 1) := by decide +kernel
theorem dX3_findAcross_150 : decode cX3_findAcross 150 = .ok (.getfield 32, 3) := by decide +kernel
theorem dX3_findAcross_153 : decode cX3_findAcross 153 = .ok (.iconst 2, 1) := by decide +kernel
theorem dX3_findAcross_154 : decode cX3_findAcross 154 = .ok (.iload 8, 2) := by decide +kernel
theorem dX3_findAcross_156 : decode cX3_findAcross 156 = .ok (.iload 9, 2) := by decide +kernel
theorem dX3_findAcross_158 : decode cX3_findAcross 158 = .ok (.idiv, 1) := by decide +kernel
theorem dX3_findAcross_159 : decode cX3_findAcross 159 = .ok (.iastore, 1) := by decide +kernel
theorem dX3_findAcross_160 : decode cX3_findAcross 160 = .ok (.iconst 1, 1) := by decide +kernel
theorem dX3_findAcross_161 : decode cX3_findAcross 161 = .ok (.ireturn, 1) := by decide +kernel
theorem dX3_countBehind_0 : decode cX3_countBehind 0 = .ok (.iconst 1, 1) := by decide +kernel
theorem dX3_countBehind_1 : decode cX3_countBehind 1 = .ok (.istore_n 2, 1) := by decide +kernel
theorem dX3_countBehind_2 : decode cX3_countBehind 2 = .ok (.iconst 0, 1) := by decide +kernel
theorem dX3_countBehind_3 : decode cX3_countBehind 3 = .ok (.istore_n 3, 1) := by decide +kernel
theorem dX3_countBehind_4 : decode cX3_countBehind 4 = .ok (.iload_n 3, 1) := by decide +kernel
theorem dX3_countBehind_5 : decode cX3_countBehind 5 = .ok (.iconst 3, 1) := by decide +kernel
theorem dX3_countBehind_6 : decode cX3_countBehind 6 = .ok (.if_icmp .ge 32, 3) := by decide +kernel
theorem dX3_countBehind_9 : decode cX3_countBehind 9 = .ok (.iload_n 2, 1) := by decide +kernel
theorem dX3_countBehind_10 : decode cX3_countBehind 10 = .ok (.iconst 0, 1) := by decide +kernel
theorem dX3_countBehind_11 : decode cX3_countBehind 11 = .ok (.aload_n 1, 1) := by decide +kernel
theorem dX3_countBehind_12 : decode cX3_countBehind 12 = .ok (.getfield 108, 3) := by decide +kernel
theorem dX3_countBehind_15 : decode cX3_countBehind 15 = .ok (.iload_n 3, 1) := by decide +kernel
theorem dX3_countBehind_16 : decode cX3_countBehind 16 = .ok (.iaload, 1) := by decide +kernel
theorem dX3_countBehind_17 : decode cX3_countBehind 17 = .ok (.aload_n 0, 1) := by decide +kernel
theorem dX3_countBehind_18 : decode cX3_countBehind 18 = .ok (.getfield 32, 3) := by decide +kernel
theorem dX3_countBehind_21 : decode cX3_countBehind 21 = .ok (.iload_n 3, 1) := by decide +kernel
theorem dX3_countBehind_22 : decode cX3_countBehind 22 = .ok (.iaload, 1) := by decide +kernel
theorem dX3_countBehind_23 : decode cX3_countBehind 23 = .ok (.invokestatic 101, 3) := by decide +kernel
theorem dX3_countBehind_26 : decode cX3_countBehind 26 = .ok (.isub, 1) := by decide +kernel
theorem dX3_countBehind_27 : decode cX3_countBehind 27 = .ok (.invokestatic 69, 3) := by decide +kernel
theorem dX3_countBehind_30 : decode cX3_countBehind 30 = .ok (.imul, 1) := by decide +kernel
theorem dX3_countBehind_31 : decode cX3_countBehind 31 = .ok (.istore_n 2, 1) := by decide +kernel
theorem dX3_countBehind_32 : decode cX3_countBehind 32 = .ok (.iinc 3 1, 3) := by decide +kernel
theorem dX3_countBehind_35 : decode cX3_countBehind 35 = .ok (.goto (-31), 3) := by decide +kernel
theorem dX3_countBehind_38 : decode cX3_countBehind 38 = .ok (.iload_n 2, 1) := by decide +kernel
theorem dX3_countBehind_39 : decode cX3_countBehind 39 = .ok (.ireturn, 1) := by decide +kernel
theorem dX3_countLine_0 : decode cX3_countLine 0 = .ok (.lconst 1, 1) := by decide +kernel
theorem dX3_countLine_1 : decode cX3_countLine 1 = .ok (.lstore_n 2, 1) := by decide +kernel
theorem dX3_countLine_2 : decode cX3_countLine 2 = .ok (.iconst 0, 1) := by decide +kernel
theorem dX3_countLine_3 : decode cX3_countLine 3 = .ok (.istore 4, 2) := by decide +kernel
theorem dX3_countLine_5 : decode cX3_countLine 5 = .ok (.iload 4, 2) := by decide +kernel
theorem dX3_countLine_7 : decode cX3_countLine 7 = .ok (.iconst 3, 1) := by decide +kernel
theorem dX3_countLine_8 : decode cX3_countLine 8 = .ok (.if_icmp .ge 54, 3) := by decide +kernel
theorem dX3_countLine_11 : decode cX3_countLine 11 = .ok (.aload_n 0, 1) := by decide +kernel
theorem dX3_countLine_12 : decode cX3_countLine 12 = .ok (.getfield 29, 3) := by decide +kernel
theorem dX3_countLine_15 : decode cX3_countLine 15 = .ok (.getfield 98, 3) := by decide +kernel
theorem dX3_countLine_18 : decode cX3_countLine 18 = .ok (.iconst 3, 1) := by decide +kernel
theorem dX3_countLine_19 : decode cX3_countLine 19 = .ok (.iload 4, 2) := by decide +kernel
theorem dX3_countLine_21 : decode cX3_countLine 21 = .ok (.iadd, 1) := by decide +kernel
theorem dX3_countLine_22 : decode cX3_countLine 22 = .ok (.iaload, 1) := by decide +kernel
theorem dX3_countLine_23 : decode cX3_countLine 23 = .ok (.invokestatic 101, 3) := by decide +kernel
theorem dX3_countLine_26 : decode cX3_countLine 26 = .ok (.istore 5, 2) := by decide +kernel
theorem dX3_countLine_28 : decode cX3_countLine 28 = .ok (.iconst 1, 1) := by decide +kernel
theorem dX3_countLine_29 : decode cX3_countLine 29 = .ok (.istore 6, 2) := by decide +kernel
theorem dX3_countLine_31 : decode cX3_countLine 31 = .ok (.iload 6, 2) := by decide +kernel
theorem dX3_countLine_33 : decode cX3_countLine 33 = .ok (.aload_n 1, 1) := by decide +kernel
theorem dX3_countLine_34 : decode cX3_countLine 34 = .ok (.getfield 108, 3) := by decide +kernel
theorem dX3_countLine_37 : decode cX3_countLine 37 = .ok (.iload 4, 2) := by decide +kernel
theorem dX3_countLine_39 : decode cX3_countLine 39 = .ok (.iaload, 1) := by decide +kernel
theorem dX3_countLine_40 : decode cX3_countLine 40 = .ok (.if_icmp .ge 16, 3) := by decide +kernel
theorem dX3_countLine_43 : decode cX3_countLine 43 = .ok (.lload_n 2, 1) := by decide +kernel
theorem dX3_countLine_44 : decode cX3_countLine 44 = .ok (.lload_n 2, 1) := by decide +kernel
theorem dX3_countLine_45 : decode cX3_countLine 45 = .ok (.iload 5, 2) := by decide +kernel
theorem dX3_countLine_47 : decode cX3_countLine 47 = .ok (.lshl, 1) := by decide +kernel
theorem dX3_countLine_48 : decode cX3_countLine 48 = .ok (.lor, 1) := by decide +kernel
theorem dX3_countLine_49 : decode cX3_countLine 49 = .ok (.lstore_n 2, 1) := by decide +kernel
theorem dX3_countLine_50 : decode cX3_countLine 50 = .ok (.iinc 6 1, 3) := by decide +kernel
theorem dX3_countLine_53 : decode cX3_countLine 53 = .ok (.goto (-22), 3) := by decide +kernel
theorem dX3_countLine_56 : decode cX3_countLine 56 = .ok (.iinc 4 1, 3) := by decide +kernel
theorem dX3_countLine_59 : decode cX3_countLine 59 = .ok (.goto (-54), 3) := by decide +kernel
theorem dX3_countLine_62 : decode cX3_countLine 62 = .ok (.lload_n 2, 1) := by decide +kernel
theorem dX3_countLine_63 : decode cX3_countLine 63 = .ok (.invokestatic 111, 3) := by decide +kernel
theorem dX3_countLine_66 : decode cX3_countLine 66 = .ok (.ireturn, 1) := by decide +kernel
theorem dX3_commonDivisor_0 : decode cX3_commonDivisor 0 = .ok (.iload_n 0, 1) := by decide +kernel
theorem dX3_commonDivisor_1 : decode cX3_commonDivisor 1 = .ok (.istore_n 2, 1) := by decide +kernel
theorem dX3_commonDivisor_2 : decode cX3_commonDivisor 2 = .ok (.iload_n 1, 1) := by decide +kernel
theorem dX3_commonDivisor_3 : decode cX3_commonDivisor 3 = .ok (.istore_n 3, 1) := by decide +kernel
theorem dX3_commonDivisor_4 : decode cX3_commonDivisor 4 = .ok (.iconst 0, 1) := by decide +kernel
theorem dX3_commonDivisor_5 : decode cX3_commonDivisor 5 = .ok (.istore 4, 2) := by decide +kernel
theorem dX3_commonDivisor_7 : decode cX3_commonDivisor 7 = .ok (.iload 4, 2) := by decide +kernel
theorem dX3_commonDivisor_9 : decode cX3_commonDivisor 9 = .ok (.bipush 64, 2) := by decide +kernel
theorem dX3_commonDivisor_11 : decode cX3_commonDivisor 11 = .ok (.if_icmp .ge 23, 3) := by decide +kernel
theorem dX3_commonDivisor_14 : decode cX3_commonDivisor 14 = .ok (.iload_n 3, 1) := by decide +kernel
theorem dX3_commonDivisor_15 : decode cX3_commonDivisor 15 = .ok (.ifCond .eq 19, 3) := by decide +kernel
theorem dX3_commonDivisor_18 : decode cX3_commonDivisor 18 = .ok (.iload_n 2, 1) := by decide +kernel
theorem dX3_commonDivisor_19 : decode cX3_commonDivisor 19 = .ok (.iload_n 3, 1) := by decide +kernel
theorem dX3_commonDivisor_20 : decode cX3_commonDivisor 20 = .ok (.irem, 1) := by decide +kernel
theorem dX3_commonDivisor_21 : decode cX3_commonDivisor 21 = .ok (.istore 5, 2) := by decide +kernel
theorem dX3_commonDivisor_23 : decode cX3_commonDivisor 23 = .ok (.iload_n 3, 1) := by decide +kernel
theorem dX3_commonDivisor_24 : decode cX3_commonDivisor 24 = .ok (.istore_n 2, 1) := by decide +kernel
theorem dX3_commonDivisor_25 : decode cX3_commonDivisor 25 = .ok (.iload 5, 2) := by decide +kernel
theorem dX3_commonDivisor_27 : decode cX3_commonDivisor 27 = .ok (.istore_n 3, 1) := by decide +kernel
theorem dX3_commonDivisor_28 : decode cX3_commonDivisor 28 = .ok (.iinc 4 1, 3) := by decide +kernel
theorem dX3_commonDivisor_31 : decode cX3_commonDivisor 31 = .ok (.goto (-24), 3) := by decide +kernel
theorem dX3_commonDivisor_34 : decode cX3_commonDivisor 34 = .ok (.iload_n 2, 1) := by decide +kernel
theorem dX3_commonDivisor_35 : decode cX3_commonDivisor 35 = .ok (.ireturn, 1) := by decide +kernel
