theorem dX2_init_0 : decode cX2_init 0 = .ok (.aload_n 0, 1) := by decide +kernel
theorem dX2_init_1 : decode cX2_init 1 = .ok (.invokespecial 3, 3) := by decide +kernel
theorem dX2_init_4 : decode cX2_init 4 = .ok (.aload_n 0, 1) := by decide +kernel
theorem dX2_init_5 : decode cX2_init 5 = .ok (.iconst 0, 1) := by decide +kernel
theorem dX2_init_6 : decode cX2_init 6 = .ok (.putfield 9, 3) := by decide +kernel
theorem dX2_init_9 : decode cX2_init 9 = .ok (.aload_n 0, 1) := by decide +kernel
theorem dX2_init_10 : decode cX2_init 10 = .ok (.sipush 2048, 3) := by decide +kernel
theorem dX2_init_13 : decode cX2_init 13 = .ok (.newarray .int, 2) := by decide +kernel
theorem dX2_init_15 : decode cX2_init 15 = .ok (.putfield 15, 3) := by decide +kernel
theorem dX2_init_18 : decode cX2_init 18 = .ok (.aload_n 0, 1) := by decide +kernel
theorem dX2_init_19 : decode cX2_init 19 = .ok (.sipush 513, 3) := by decide +kernel
theorem dX2_init_22 : decode cX2_init 22 = .ok (.newarray .int, 2) := by decide +kernel
theorem dX2_init_24 : decode cX2_init 24 = .ok (.putfield 19, 3) := by decide +kernel
theorem dX2_init_27 : decode cX2_init 27 = .ok (.aload_n 0, 1) := by decide +kernel
theorem dX2_init_28 : decode cX2_init 28 = .ok (.iconst 0, 1) := by decide +kernel
theorem dX2_init_29 : decode cX2_init 29 = .ok (.putfield 22, 3) := by decide +kernel
theorem dX2_init_32 : decode cX2_init 32 = .ok (.aload_n 0, 1) := by decide +kernel
theorem dX2_init_33 : decode cX2_init 33 = .ok (.sipush 512, 3) := by decide +kernel
theorem dX2_init_36 : decode cX2_init 36 = .ok (.newarray .int, 2) := by decide +kernel
theorem dX2_init_38 : decode cX2_init 38 = .ok (.putfield 26, 3) := by decide +kernel
theorem dX2_init_41 : decode cX2_init 41 = .ok (.aload_n 0, 1) := by decide +kernel
theorem dX2_init_42 : decode cX2_init 42 = .ok (.sipush 513, 3) := by decide +kernel
theorem dX2_init_45 : decode cX2_init 45 = .ok (.newarray .int, 2) := by decide +kernel
theorem dX2_init_47 : decode cX2_init 47 = .ok (.putfield 29, 3) := by decide +kernel
theorem dX2_init_50 : decode cX2_init 50 = .ok (.return_, 1) := by decide +kernel
theorem dX2_work_0 : decode cX2_work 0 = .ok (.aload_n 0, 1) := by decide +kernel
theorem dX2_work_1 : decode cX2_work 1 = .ok (.aload_n 2, 1) := by decide +kernel
theorem dX2_work_2 : decode cX2_work 2 = .ok (.getfield 32, 3) := by decide +kernel
theorem dX2_work_5 : decode cX2_work 5 = .ok (.putfield 22, 3) := by decide +kernel
theorem dX2_work_8 : decode cX2_work 8 = .ok (.aload_n 0, 1) := by decide +kernel
theorem dX2_work_9 : decode cX2_work 9 = .ok (.aload_n 1, 1) := by decide +kernel
theorem dX2_work_10 : decode cX2_work 10 = .ok (.aload_n 2, 1) := by decide +kernel
theorem dX2_work_11 : decode cX2_work 11 = .ok (.invokevirtual 35, 3) := by decide +kernel
theorem dX2_work_14 : decode cX2_work 14 = .ok (.iconst 0, 1) := by decide +kernel
theorem dX2_work_15 : decode cX2_work 15 = .ok (.istore_n 3, 1) := by decide +kernel
theorem dX2_work_16 : decode cX2_work 16 = .ok (.iconst 0, 1) := by decide +kernel
theorem dX2_work_17 : decode cX2_work 17 = .ok (.istore 4, 2) := by decide +kernel
theorem dX2_work_19 : decode cX2_work 19 = .ok (.iload 4, 2) := by decide +kernel
theorem dX2_work_21 : decode cX2_work 21 = .ok (.aload_n 0, 1) := by decide +kernel
theorem dX2_work_22 : decode cX2_work 22 = .ok (.getfield 22, 3) := by decide +kernel
theorem dX2_work_25 : decode cX2_work 25 = .ok (.if_icmp .ge 56, 3) := by decide +kernel
theorem dX2_work_28 : decode cX2_work 28 = .ok (.aload_n 0, 1) := by decide +kernel
theorem dX2_work_29 : decode cX2_work 29 = .ok (.getfield 29, 3) := by decide +kernel
theorem dX2_work_32 : decode cX2_work 32 = .ok (.iload 4, 2) := by decide +kernel
theorem dX2_work_34 : decode cX2_work 34 = .ok (.iaload, 1) := by decide +kernel
theorem dX2_work_35 : decode cX2_work 35 = .ok (.istore 5, 2) := by decide +kernel
theorem dX2_work_37 : decode cX2_work 37 = .ok (.iload 5, 2) := by decide +kernel
theorem dX2_work_39 : decode cX2_work 39 = .ok (.aload_n 0, 1) := by decide +kernel
theorem dX2_work_40 : decode cX2_work 40 = .ok (.getfield 29, 3) := by decide +kernel
theorem dX2_work_43 : decode cX2_work 43 = .ok (.iload 4, 2) := by decide +kernel
theorem dX2_work_45 : decode cX2_work 45 = .ok (.iconst 1, 1) := by decide +kernel
theorem dX2_work_46 : decode cX2_work 46 = .ok (.iadd, 1) := by decide +kernel
theorem dX2_work_47 : decode cX2_work 47 = .ok (.iaload, 1) := by decide +kernel
theorem dX2_work_48 : decode cX2_work 48 = .ok (.if_icmp .ge 27, 3) := by decide +kernel
theorem dX2_work_51 : decode cX2_work 51 = .ok (.aload_n 1, 1) := by decide +kernel
theorem dX2_work_52 : decode cX2_work 52 = .ok (.aload_n 0, 1) := by decide +kernel
theorem dX2_work_53 : decode cX2_work 53 = .ok (.getfield 15, 3) := by decide +kernel
theorem dX2_work_56 : decode cX2_work 56 = .ok (.aload_n 0, 1) := by decide +kernel
theorem dX2_work_57 : decode cX2_work 57 = .ok (.getfield 26, 3) := by decide +kernel
theorem dX2_work_60 : decode cX2_work 60 = .ok (.iload 5, 2) := by decide +kernel
theorem dX2_work_62 : decode cX2_work 62 = .ok (.iaload, 1) := by decide +kernel
theorem dX2_work_63 : decode cX2_work 63 = .ok (.invokevirtual 39, 3) := by decide +kernel
theorem dX2_work_66 : decode cX2_work 66 = .ok (.iinc 3 1, 3) := by decide +kernel
theorem dX2_work_69 : decode cX2_work 69 = .ok (.iinc 5 1, 3) := by decide +kernel
theorem dX2_work_72 : decode cX2_work 72 = .ok (.goto (-35), 3) := by decide +kernel
theorem dX2_work_75 : decode cX2_work 75 = .ok (.iinc 4 1, 3) := by decide +kernel
theorem dX2_work_78 : decode cX2_work 78 = .ok (.goto (-59), 3) := by decide +kernel
theorem dX2_work_81 : decode cX2_work 81 = .ok (.aload_n 0, 1) := by decide +kernel
theorem dX2_work_82 : decode cX2_work 82 = .ok (.aload_n 1, 1) := by decide +kernel
theorem dX2_work_83 : decode cX2_work 83 = .ok (.aload_n 2, 1) := by decide +kernel
theorem dX2_work_84 : decode cX2_work 84 = .ok (.invokevirtual 45, 3) := by decide +kernel
theorem dX2_work_87 : decode cX2_work 87 = .ok (.aload_n 0, 1) := by decide +kernel
theorem dX2_work_88 : decode cX2_work 88 = .ok (.iconst 1, 1) := by decide +kernel
theorem dX2_work_89 : decode cX2_work 89 = .ok (.putfield 9, 3) := by decide +kernel
theorem dX2_work_92 : decode cX2_work 92 = .ok (.iload_n 3, 1) := by decide +kernel
theorem dX2_work_93 : decode cX2_work 93 = .ok (.ireturn, 1) := by decide +kernel
theorem dX2_sortByBeat_0 : decode cX2_sortByBeat 0 = .ok (.aload_n 0, 1) := by decide +kernel
theorem dX2_sortByBeat_1 : decode cX2_sortByBeat 1 = .ok (.getfield 29, 3) := by decide +kernel
theorem dX2_sortByBeat_4 : decode cX2_sortByBeat 4 = .ok (.iconst 0, 1) := by decide +kernel
theorem dX2_sortByBeat_5 : decode cX2_sortByBeat 5 = .ok (.invokestatic 48, 3) := by decide +kernel
theorem dX2_sortByBeat_8 : decode cX2_sortByBeat 8 = .ok (.iconst 0, 1) := by decide +kernel
theorem dX2_sortByBeat_9 : decode cX2_sortByBeat 9 = .ok (.istore_n 3, 1) := by decide +kernel
theorem dX2_sortByBeat_10 : decode cX2_sortByBeat 10 = .ok (.iload_n 3, 1) := by decide +kernel
theorem dX2_sortByBeat_11 : decode cX2_sortByBeat 11 = .ok (.aload_n 1, 1) := by decide +kernel
theorem dX2_sortByBeat_12 : decode cX2_sortByBeat 12 = .ok (.getfield 53, 3) := by decide +kernel
theorem dX2_sortByBeat_15 : decode cX2_sortByBeat 15 = .ok (.if_icmp .ge 29, 3) := by decide +kernel
theorem dX2_sortByBeat_18 : decode cX2_sortByBeat 18 = .ok (.aload_n 0, 1) := by decide +kernel
theorem dX2_sortByBeat_19 : decode cX2_sortByBeat 19 = .ok (.getfield 29, 3) := by decide +kernel
theorem dX2_sortByBeat_22 : decode cX2_sortByBeat 22 = .ok (.aload_n 2, 1) := by decide +kernel
theorem dX2_sortByBeat_23 : decode cX2_sortByBeat 23 = .ok (.getfield 56, 3) := by decide +kernel
theorem dX2_sortByBeat_26 : decode cX2_sortByBeat 26 = .ok (.aload_n 1, 1) := by decide +kernel
theorem dX2_sortByBeat_27 : decode cX2_sortByBeat 27 = .ok (.getfield 59, 3) := by decide +kernel
theorem dX2_sortByBeat_30 : decode cX2_sortByBeat 30 = .ok (.iload_n 3, 1) := by decide +kernel
theorem dX2_sortByBeat_31 : decode cX2_sortByBeat 31 = .ok (.iaload, 1) := by decide +kernel
theorem dX2_sortByBeat_32 : decode cX2_sortByBeat 32 = .ok (.iaload, 1) := by decide +kernel
theorem dX2_sortByBeat_33 : decode cX2_sortByBeat 33 = .ok (.dup2, 1) := by decide +kernel
theorem dX2_sortByBeat_34 : decode cX2_sortByBeat 34 = .ok (.iaload, 1) := by decide +kernel
theorem dX2_sortByBeat_35 : decode cX2_sortByBeat 35 = .ok (.iconst 1, 1) := by decide +kernel
theorem dX2_sortByBeat_36 : decode cX2_sortByBeat 36 = .ok (.iadd, 1) := by decide +kernel
theorem dX2_sortByBeat_37 : decode cX2_sortByBeat 37 = .ok (.iastore, 1) := by decide +kernel
theorem dX2_sortByBeat_38 : decode cX2_sortByBeat 38 = .ok (.iinc 3 1, 3) := by decide +kernel
theorem dX2_sortByBeat_41 : decode cX2_sortByBeat 41 = .ok (.goto (-31), 3) := by decide +kernel
theorem dX2_sortByBeat_44 : decode cX2_sortByBeat 44 = .ok (.iconst 1, 1) := by decide +kernel
theorem dX2_sortByBeat_45 : decode cX2_sortByBeat 45 = .ok (.istore_n 3, 1) := by decide +kernel
theorem dX2_sortByBeat_46 : decode cX2_sortByBeat 46 = .ok (.iload_n 3, 1) := by decide +kernel
theorem dX2_sortByBeat_47 : decode cX2_sortByBeat 47 = .ok (.aload_n 0, 1) := by decide +kernel
theorem dX2_sortByBeat_48 : decode cX2_sortByBeat 48 = .ok (.getfield 22, 3) := by decide +kernel
theorem dX2_sortByBeat_51 : decode cX2_sortByBeat 51 = .ok (.if_icmp .gt 26, 3) := by decide +kernel
theorem dX2_sortByBeat_54 : decode cX2_sortByBeat 54 = .ok (.aload_n 0, 1) := by decide +kernel
theorem dX2_sortByBeat_55 : decode cX2_sortByBeat 55 = .ok (.getfield 29, 3) := by decide +kernel
theorem dX2_sortByBeat_58 : decode cX2_sortByBeat 58 = .ok (.iload_n 3, 1) := by decide +kernel
theorem dX2_sortByBeat_59 : decode cX2_sortByBeat 59 = .ok (.dup2, 1) := by decide +kernel
theorem dX2_sortByBeat_60 : decode cX2_sortByBeat 60 = .ok (.iaload, 1) := by decide +kernel
theorem dX2_sortByBeat_61 : decode cX2_sortByBeat 61 = .ok (.aload_n 0, 1) := by decide +kernel
theorem dX2_sortByBeat_62 : decode cX2_sortByBeat 62 = .ok (.getfield 29, 3) := by decide +kernel
theorem dX2_sortByBeat_65 : decode cX2_sortByBeat 65 = .ok (.iload_n 3, 1) := by decide +kernel
theorem dX2_sortByBeat_66 : decode cX2_sortByBeat 66 = .ok (.iconst 1, 1) := by decide +kernel
theorem dX2_sortByBeat_67 : decode cX2_sortByBeat 67 = .ok (.isub, 1) := by decide +kernel
theorem dX2_sortByBeat_68 : decode cX2_sortByBeat 68 = .ok (.iaload, 1) := by decide +kernel
theorem dX2_sortByBeat_69 : decode cX2_sortByBeat 69 = .ok (.iadd, 1) := by decide +kernel
theorem dX2_sortByBeat_70 : decode cX2_sortByBeat 70 = .ok (.iastore, 1) := by decide +kernel
theorem dX2_sortByBeat_71 : decode cX2_sortByBeat 71 = .ok (.iinc 3 1, 3) := by decide +kernel
theorem dX2_sortByBeat_74 : decode cX2_sortByBeat 74 = .ok (.goto (-28), 3) := by decide +kernel
theorem dX2_sortByBeat_77 : decode cX2_sortByBeat 77 = .ok (.aload_n 1, 1) := by decide +kernel
theorem dX2_sortByBeat_78 : decode cX2_sortByBeat 78 = .ok (.getfield 53, 3) := by decide +kernel
theorem dX2_sortByBeat_81 : decode cX2_sortByBeat 81 = .ok (.iconst 1, 1) := by decide +kernel
theorem dX2_sortByBeat_82 : decode cX2_sortByBeat 82 = .ok (.isub, 1) := by decide +kernel
theorem dX2_sortByBeat_83 : decode cX2_sortByBeat 83 = .ok (.istore_n 3, 1) := by decide +kernel
theorem dX2_sortByBeat_84 : decode cX2_sortByBeat 84 = .ok (.iload_n 3, 1) := by decide +kernel
theorem dX2_sortByBeat_85 : decode cX2_sortByBeat 85 = .ok (.ifCond .lt 51, 3) := by decide +kernel
theorem dX2_sortByBeat_88 : decode cX2_sortByBeat 88 = .ok (.aload_n 1, 1) := by decide +kernel
theorem dX2_sortByBeat_89 : decode cX2_sortByBeat 89 = .ok (.getfield 59, 3) := by decide +kernel
theorem dX2_sortByBeat_92 : decode cX2_sortByBeat 92 = .ok (.iload_n 3, 1) := by decide +kernel
theorem dX2_sortByBeat_93 : decode cX2_sortByBeat 93 = .ok (.iaload, 1) := by decide +kernel
theorem dX2_sortByBeat_94 : decode cX2_sortByBeat 94 = .ok (.istore 4, 2) := by decide +kernel
theorem dX2_sortByBeat_96 : decode cX2_sortByBeat 96 = .ok (.aload_n 2, 1) := by decide +kernel
theorem dX2_sortByBeat_97 : decode cX2_sortByBeat 97 = .ok (.getfield 56, 3) := by decide +kernel
theorem dX2_sortByBeat_100 : decode cX2_sortByBeat 100 = .ok (.iload 4, 2) := by decide +kernel
theorem dX2_sortByBeat_102 : decode cX2_sortByBeat 102 = .ok (.iaload, 1) := by decide +kernel
theorem dX2_sortByBeat_103 : decode cX2_sortByBeat 103 = .ok (.istore 5, 2) := by decide +kernel
theorem dX2_sortByBeat_105 : decode cX2_sortByBeat 105 = .ok (.aload_n 0, 1) := by decide +kernel
theorem dX2_sortByBeat_106 : decode cX2_sortByBeat 106 = .ok (.getfield 29, 3) := by decide +kernel
theorem dX2_sortByBeat_109 : decode cX2_sortByBeat 109 = .ok (.iload 5, 2) := by decide +kernel
theorem dX2_sortByBeat_111 : decode cX2_sortByBeat 111 = .ok (.dup2, 1) := by decide +kernel
theorem dX2_sortByBeat_112 : decode cX2_sortByBeat 112 = .ok (.iaload, 1) := by decide +kernel
theorem dX2_sortByBeat_113 : decode cX2_sortByBeat 113 = .ok (.iconst 1, 1) := by decide +kernel
theorem dX2_sortByBeat_114 : decode cX2_sortByBeat 114 = .ok (.isub, 1) := by decide +kernel
theorem dX2_sortByBeat_115 : decode cX2_sortByBeat 115 = .ok (.iastore, 1) := by decide +kernel
theorem dX2_sortByBeat_116 : decode cX2_sortByBeat 116 = .ok (.aload_n 0, 1) := by decide +kernel
theorem dX2_sortByBeat_117 : decode cX2_sortByBeat 117 = .ok (.getfield 26, 3) := by decide +kernel
theorem dX2_sortByBeat_120 : decode cX2_sortByBeat 120 = .ok (.aload_n 0, 1) := by decide +kernel
theorem dX2_sortByBeat_121 : decode cX2_sortByBeat 121 = .ok (.getfield 29, 3) := by decide +kernel
theorem dX2_sortByBeat_124 : decode cX2_sortByBeat 124 = .ok (.iload 5, 2) := by decide +kernel
theorem dX2_sortByBeat_126 : decode cX2_sortByBeat 126 = .ok (.iaload, 1) := by decide +kernel
theorem dX2_sortByBeat_127 : decode cX2_sortByBeat 127 = .ok (.iload 4, 2) := by decide +kernel
theorem dX2_sortByBeat_129 : decode cX2_sortByBeat 129 = .ok (.iastore, 1) := by decide +kernel
theorem dX2_sortByBeat_130 : decode cX2_sortByBeat 130 = .ok (.iinc 3 (-1), 3) := by decide +kernel
theorem dX2_sortByBeat_133 : decode cX2_sortByBeat 133 = .ok (.goto (-49), 3) := by decide +kernel
theorem dX2_sortByBeat_136 : decode cX2_sortByBeat 136 = .ok (.return_, 1) := by decide +kernel
theorem dX2_countHeld_0 : decode cX2_countHeld 0 = .ok (.aload_n 0, 1) := by decide +kernel
theorem dX2_countHeld_1 : decode cX2_countHeld 1 = .ok (.getfield 19, 3) := by decide +kernel
theorem dX2_countHeld_4 : decode cX2_countHeld 4 = .ok (.iconst 0, 1) := by decide +kernel
theorem dX2_countHeld_5 : decode cX2_countHeld 5 = .ok (.invokestatic 48, 3) := by decide +kernel
theorem dX2_countHeld_8 : decode cX2_countHeld 8 = .ok (.iconst 0, 1) := by decide +kernel
theorem dX2_countHeld_9 : decode cX2_countHeld 9 = .ok (.istore_n 3, 1) := by decide +kernel
theorem dX2_countHeld_10 : decode cX2_countHeld 10 = .ok (.iload_n 3, 1) := by decide +kernel
theorem dX2_countHeld_11 : decode cX2_countHeld 11 = .ok (.aload_n 1, 1) := by decide +kernel
theorem dX2_countHeld_12 : decode cX2_countHeld 12 = .ok (.getfield 62, 3) := by decide +kernel
theorem dX2_countHeld_15 : decode cX2_countHeld 15 = .ok (.if_icmp .ge 85, 3) := by decide +kernel
theorem dX2_countHeld_18 : decode cX2_countHeld 18 = .ok (.iconst 0, 1) := by decide +kernel
theorem dX2_countHeld_19 : decode cX2_countHeld 19 = .ok (.istore 4, 2) := by decide +kernel
theorem dX2_countHeld_21 : decode cX2_countHeld 21 = .ok (.iload 4, 2) := by decide +kernel
theorem dX2_countHeld_23 : decode cX2_countHeld 23 = .ok (.aload_n 1, 1) := by decide +kernel
theorem dX2_countHeld_24 : decode cX2_countHeld 24 = .ok (.getfield 53, 3) := by decide +kernel
theorem dX2_countHeld_27 : decode cX2_countHeld 27 = .ok (.if_icmp .ge 67, 3) := by decide +kernel
theorem dX2_countHeld_30 : decode cX2_countHeld 30 = .ok (.aload_n 1, 1) := by decide +kernel
theorem dX2_countHeld_31 : decode cX2_countHeld 31 = .ok (.iload_n 3, 1) := by decide +kernel
theorem dX2_countHeld_32 : decode cX2_countHeld 32 = .ok (.aload_n 1, 1) := by decide +kernel
theorem dX2_countHeld_33 : decode cX2_countHeld 33 = .ok (.getfield 59, 3) := by decide +kernel
theorem dX2_countHeld_36 : decode cX2_countHeld 36 = .ok (.iload 4, 2) := by decide +kernel
theorem dX2_countHeld_38 : decode cX2_countHeld 38 = .ok (.iaload, 1) := by decide +kernel
theorem dX2_countHeld_39 : decode cX2_countHeld 39 = .ok (.iconst 1, 1) := by decide +kernel
theorem dX2_countHeld_40 : decode cX2_countHeld 40 = .ok (.invokevirtual 65, 3) := by decide +kernel
theorem dX2_countHeld_43 : decode cX2_countHeld 43 = .ok (.istore 5, 2) := by decide +kernel
theorem dX2_countHeld_45 : decode cX2_countHeld 45 = .ok (.iload 5, 2) := by decide +kernel
theorem dX2_countHeld_47 : decode cX2_countHeld 47 = .ok (.iconst (-1), 1) := by decide +kernel
theorem dX2_countHeld_48 : decode cX2_countHeld 48 = .ok (.if_icmp .eq 40, 3) := by decide +kernel
theorem dX2_countHeld_51 : decode cX2_countHeld 51 = .ok (.aload_n 0, 1) := by decide +kernel
theorem dX2_countHeld_52 : decode cX2_countHeld 52 = .ok (.getfield 19, 3) := by decide +kernel
theorem dX2_countHeld_55 : decode cX2_countHeld 55 = .ok (.aload_n 2, 1) := by decide +kernel
theorem dX2_countHeld_56 : decode cX2_countHeld 56 = .ok (.getfield 56, 3) := by decide +kernel
theorem dX2_countHeld_59 : decode cX2_countHeld 59 = .ok (.aload_n 1, 1) := by decide +kernel
theorem dX2_countHeld_60 : decode cX2_countHeld 60 = .ok (.getfield 59, 3) := by decide +kernel
theorem dX2_countHeld_63 : decode cX2_countHeld 63 = .ok (.iload 4, 2) := by decide +kernel
theorem dX2_countHeld_65 : decode cX2_countHeld 65 = .ok (.iaload, 1) := by decide +kernel
theorem dX2_countHeld_66 : decode cX2_countHeld 66 = .ok (.iaload, 1) := by decide +kernel
theorem dX2_countHeld_67 : decode cX2_countHeld 67 = .ok (.dup2, 1) := by decide +kernel
theorem dX2_countHeld_68 : decode cX2_countHeld 68 = .ok (.iaload, 1) := by decide +kernel
theorem dX2_countHeld_69 : decode cX2_countHeld 69 = .ok (.iconst 1, 1) := by decide +kernel
theorem dX2_countHeld_70 : decode cX2_countHeld 70 = .ok (.iadd, 1) := by decide +kernel
theorem dX2_countHeld_71 : decode cX2_countHeld 71 = .ok (.iastore, 1) := by decide +kernel
theorem dX2_countHeld_72 : decode cX2_countHeld 72 = .ok (.aload_n 0, 1) := by decide +kernel
theorem dX2_countHeld_73 : decode cX2_countHeld 73 = .ok (.getfield 19, 3) := by decide +kernel
theorem dX2_countHeld_76 : decode cX2_countHeld 76 = .ok (.aload_n 2, 1) := by decide +kernel
theorem dX2_countHeld_77 : decode cX2_countHeld 77 = .ok (.getfield 56, 3) := by decide +kernel
theorem dX2_countHeld_80 : decode cX2_countHeld 80 = .ok (.iload 5, 2) := by decide +kernel
theorem dX2_countHeld_82 : decode cX2_countHeld 82 = .ok (.iaload, 1) := by decide +kernel
theorem dX2_countHeld_83 : decode cX2_countHeld 83 = .ok (.dup2, 1) := by decide +kernel
theorem dX2_countHeld_84 : decode cX2_countHeld 84 = .ok (.iaload, 1) := by decide +kernel
theorem dX2_countHeld_85 : decode cX2_countHeld 85 = .ok (.iconst 1, 1) := by decide +kernel
theorem dX2_countHeld_86 : decode cX2_countHeld 86 = .ok (.isub, 1) := by decide +kernel
theorem dX2_countHeld_87 : decode cX2_countHeld 87 = .ok (.iastore, 1) := by decide +kernel
theorem dX2_countHeld_88 : decode cX2_countHeld 88 = .ok (.iinc 4 1, 3) := by decide +kernel
theorem dX2_countHeld_91 : decode cX2_countHeld 91 = .ok (.goto (-70), 3) := by decide +kernel
theorem dX2_countHeld_94 : decode cX2_countHeld 94 = .ok (.iinc 3 1, 3) := by decide +kernel
theorem dX2_countHeld_97 : decode cX2_countHeld 97 = .ok (.goto (-87), 3) := by decide +kernel
theorem dX2_countHeld_100 : decode cX2_countHeld 100 = .ok (.iconst 1, 1) := by decide +kernel
theorem dX2_countHeld_101 : decode cX2_countHeld 101 = .ok (.istore_n 3, 1) := by decide +kernel
theorem dX2_countHeld_102 : decode cX2_countHeld 102 = .ok (.iload_n 3, 1) := by decide +kernel
theorem dX2_countHeld_103 : decode cX2_countHeld 103 = .ok (.aload_n 0, 1) := by decide +kernel
theorem dX2_countHeld_104 : decode cX2_countHeld 104 = .ok (.getfield 22, 3) := by decide +kernel
theorem dX2_countHeld_107 : decode cX2_countHeld 107 = .ok (.if_icmp .ge 26, 3) := by decide +kernel
theorem dX2_countHeld_110 : decode cX2_countHeld 110 = .ok (.aload_n 0, 1) := by decide +kernel
theorem dX2_countHeld_111 : decode cX2_countHeld 111 = .ok (.getfield 19, 3) := by decide +kernel
theorem dX2_countHeld_114 : decode cX2_countHeld 114 = .ok (.iload_n 3, 1) := by decide +kernel
theorem dX2_countHeld_115 : decode cX2_countHeld 115 = .ok (.dup2, 1) := by decide +kernel
theorem dX2_countHeld_116 : decode cX2_countHeld 116 = .ok (.iaload, 1) := by decide +kernel
theorem dX2_countHeld_117 : decode cX2_countHeld 117 = .ok (.aload_n 0, 1) := by decide +kernel
theorem dX2_countHeld_118 : decode cX2_countHeld 118 = .ok (.getfield 19, 3) := by decide +kernel
theorem dX2_countHeld_121 : decode cX2_countHeld 121 = .ok (.iload_n 3, 1) := by decide +kernel
theorem dX2_countHeld_122 : decode cX2_countHeld 122 = .ok (.iconst 1, 1) := by decide +kernel
theorem dX2_countHeld_123 : decode cX2_countHeld 123 = .ok (.isub, 1) := by decide +kernel
theorem dX2_countHeld_124 : decode cX2_countHeld 124 = .ok (.iaload, 1) := by decide +kernel
theorem dX2_countHeld_125 : decode cX2_countHeld 125 = .ok (.iadd, 1) := by decide +kernel
theorem dX2_countHeld_126 : decode cX2_countHeld 126 = .ok (.iastore, 1) := by decide +kernel
theorem dX2_countHeld_127 : decode cX2_countHeld 127 = .ok (.iinc 3 1, 3) := by decide +kernel
theorem dX2_countHeld_130 : decode cX2_countHeld 130 = .ok (.goto (-28), 3) := by decide +kernel
theorem dX2_countHeld_133 : decode cX2_countHeld 133 = .ok (.return_, 1) := by decide +kernel
theorem dX2_hasBeat_0 : decode cX2_hasBeat 0 = .ok (.aload_n 0, 1) := by decide +kernel
theorem dX2_hasBeat_1 : decode cX2_hasBeat 1 = .ok (.getfield 9, 3) := by decide +kernel
theorem dX2_hasBeat_4 : decode cX2_hasBeat 4 = .ok (.ifCond .eq 19, 3) := by decide +kernel
theorem dX2_hasBeat_7 : decode cX2_hasBeat 7 = .ok (.iload_n 1, 1) := by decide +kernel
theorem dX2_hasBeat_8 : decode cX2_hasBeat 8 = .ok (.ifCond .lt 15, 3) := by decide +kernel
theorem dX2_hasBeat_11 : decode cX2_hasBeat 11 = .ok (.iload_n 1, 1) := by decide +kernel
theorem dX2_hasBeat_12 : decode cX2_hasBeat 12 = .ok (.aload_n 0, 1) := by decide +kernel
theorem dX2_hasBeat_13 : decode cX2_hasBeat 13 = .ok (.getfield 22, 3) := by decide +kernel
theorem dX2_hasBeat_16 : decode cX2_hasBeat 16 = .ok (.if_icmp .ge 7, 3) := by decide +kernel
theorem dX2_hasBeat_19 : decode cX2_hasBeat 19 = .ok (.iconst 1, 1) := by decide +kernel
theorem dX2_hasBeat_20 : decode cX2_hasBeat 20 = .ok (.goto 4, 3) := by decide +kernel
theorem dX2_hasBeat_23 : decode cX2_hasBeat 23 = .ok (.iconst 0, 1) := by decide +kernel
theorem dX2_hasBeat_24 : decode cX2_hasBeat 24 = .ok (.ireturn, 1) := by decide +kernel
theorem dX2_pointAt_0 : decode cX2_pointAt 0 = .ok (.aload_n 0, 1) := by decide +kernel
theorem dX2_pointAt_1 : decode cX2_pointAt 1 = .ok (.getfield 29, 3) := by decide +kernel
theorem dX2_pointAt_4 : decode cX2_pointAt 4 = .ok (.iload_n 2, 1) := by decide +kernel
theorem dX2_pointAt_5 : decode cX2_pointAt 5 = .ok (.iaload, 1) := by decide +kernel
theorem dX2_pointAt_6 : decode cX2_pointAt 6 = .ok (.istore 5, 2) := by decide +kernel
theorem dX2_pointAt_8 : decode cX2_pointAt 8 = .ok (.iload 5, 2) := by decide +kernel
theorem dX2_pointAt_10 : decode cX2_pointAt 10 = .ok (.aload_n 0, 1) := by decide +kernel
theorem dX2_pointAt_11 : decode cX2_pointAt 11 = .ok (.getfield 29, 3) := by decide +kernel
theorem dX2_pointAt_14 : decode cX2_pointAt 14 = .ok (.iload_n 2, 1) := by decide +kernel
theorem dX2_pointAt_15 : decode cX2_pointAt 15 = .ok (.iconst 1, 1) := by decide +kernel
theorem dX2_pointAt_16 : decode cX2_pointAt 16 = .ok (.iadd, 1) := by decide +kernel
theorem dX2_pointAt_17 : decode cX2_pointAt 17 = .ok (.iaload, 1) := by decide +kernel
theorem dX2_pointAt_18 : decode cX2_pointAt 18 = .ok (.if_icmp .ge 44, 3) := by decide +kernel
theorem dX2_pointAt_21 : decode cX2_pointAt 21 = .ok (.aload_n 0, 1) := by decide +kernel
theorem dX2_pointAt_22 : decode cX2_pointAt 22 = .ok (.getfield 26, 3) := by decide +kernel
theorem dX2_pointAt_25 : decode cX2_pointAt 25 = .ok (.iload 5, 2) := by decide +kernel
theorem dX2_pointAt_27 : decode cX2_pointAt 27 = .ok (.iaload, 1) := by decide +kernel
theorem dX2_pointAt_28 : decode cX2_pointAt 28 = .ok (.istore 6, 2) := by decide +kernel
theorem dX2_pointAt_30 : decode cX2_pointAt 30 = .ok (.aload_n 1, 1) := by decide +kernel
theorem dX2_pointAt_31 : decode cX2_pointAt 31 = .ok (.getfield 69, 3) := by decide +kernel
theorem dX2_pointAt_34 : decode cX2_pointAt 34 = .ok (.iload 6, 2) := by decide +kernel
theorem dX2_pointAt_36 : decode cX2_pointAt 36 = .ok (.iaload, 1) := by decide +kernel
theorem dX2_pointAt_37 : decode cX2_pointAt 37 = .ok (.iload_n 3, 1) := by decide +kernel
theorem dX2_pointAt_38 : decode cX2_pointAt 38 = .ok (.if_icmp .ne 18, 3) := by decide +kernel
theorem dX2_pointAt_41 : decode cX2_pointAt 41 = .ok (.aload_n 1, 1) := by decide +kernel
theorem dX2_pointAt_42 : decode cX2_pointAt 42 = .ok (.getfield 72, 3) := by decide +kernel
theorem dX2_pointAt_45 : decode cX2_pointAt 45 = .ok (.iload 6, 2) := by decide +kernel
theorem dX2_pointAt_47 : decode cX2_pointAt 47 = .ok (.iaload, 1) := by decide +kernel
theorem dX2_pointAt_48 : decode cX2_pointAt 48 = .ok (.iload 4, 2) := by decide +kernel
theorem dX2_pointAt_50 : decode cX2_pointAt 50 = .ok (.if_icmp .ne 6, 3) := by decide +kernel
theorem dX2_pointAt_53 : decode cX2_pointAt 53 = .ok (.iload 6, 2) := by decide +kernel
theorem dX2_pointAt_55 : decode cX2_pointAt 55 = .ok (.ireturn, 1) := by decide +kernel
theorem dX2_pointAt_56 : decode cX2_pointAt 56 = .ok (.iinc 5 1, 3) := by decide +kernel
theorem dX2_pointAt_59 : decode cX2_pointAt 59 = .ok (.goto (-51), 3) := by decide +kernel
theorem dX2_pointAt_62 : decode cX2_pointAt 62 = .ok (.iconst (-1), 1) := by decide +kernel
theorem dX2_pointAt_63 : decode cX2_pointAt 63 = .ok (.ireturn, 1) := by decide +kernel
