theorem dX0_init_0 : decode cX0_init 0 = .ok (.aload_n 0, 1) := by decide +kernel
theorem dX0_init_1 : decode cX0_init 1 = .ok (.invokespecial 3, 3) := by decide +kernel
theorem dX0_init_4 : decode cX0_init 4 = .ok (.aload_n 0, 1) := by decide +kernel
theorem dX0_init_5 : decode cX0_init 5 = .ok (.sipush 512, 3) := by decide +kernel
theorem dX0_init_8 : decode cX0_init 8 = .ok (.newarray .int, 2) := by decide +kernel
theorem dX0_init_10 : decode cX0_init 10 = .ok (.putfield 9, 3) := by decide +kernel
theorem dX0_init_13 : decode cX0_init 13 = .ok (.aload_n 0, 1) := by decide +kernel
theorem dX0_init_14 : decode cX0_init 14 = .ok (.sipush 512, 3) := by decide +kernel
theorem dX0_init_17 : decode cX0_init 17 = .ok (.newarray .int, 2) := by decide +kernel
theorem dX0_init_19 : decode cX0_init 19 = .ok (.putfield 15, 3) := by decide +kernel
theorem dX0_init_22 : decode cX0_init 22 = .ok (.aload_n 0, 1) := by decide +kernel
theorem dX0_init_23 : decode cX0_init 23 = .ok (.sipush 512, 3) := by decide +kernel
theorem dX0_init_26 : decode cX0_init 26 = .ok (.newarray .int, 2) := by decide +kernel
theorem dX0_init_28 : decode cX0_init 28 = .ok (.putfield 18, 3) := by decide +kernel
theorem dX0_init_31 : decode cX0_init 31 = .ok (.aload_n 0, 1) := by decide +kernel
theorem dX0_init_32 : decode cX0_init 32 = .ok (.iconst 0, 1) := by decide +kernel
theorem dX0_init_33 : decode cX0_init 33 = .ok (.putfield 21, 3) := by decide +kernel
theorem dX0_init_36 : decode cX0_init 36 = .ok (.aload_n 0, 1) := by decide +kernel
theorem dX0_init_37 : decode cX0_init 37 = .ok (.iconst (-1), 1) := by decide +kernel
theorem dX0_init_38 : decode cX0_init 38 = .ok (.putfield 25, 3) := by decide +kernel
theorem dX0_init_41 : decode cX0_init 41 = .ok (.aload_n 0, 1) := by decide +kernel
theorem dX0_init_42 : decode cX0_init 42 = .ok (.iconst (-1), 1) := by decide +kernel
theorem dX0_init_43 : decode cX0_init 43 = .ok (.putfield 29, 3) := by decide +kernel
theorem dX0_init_46 : decode cX0_init 46 = .ok (.aload_n 0, 1) := by decide +kernel
theorem dX0_init_47 : decode cX0_init 47 = .ok (.sipush 4096, 3) := by decide +kernel
theorem dX0_init_50 : decode cX0_init 50 = .ok (.newarray .int, 2) := by decide +kernel
theorem dX0_init_52 : decode cX0_init 52 = .ok (.putfield 32, 3) := by decide +kernel
theorem dX0_init_55 : decode cX0_init 55 = .ok (.aload_n 0, 1) := by decide +kernel
theorem dX0_init_56 : decode cX0_init 56 = .ok (.sipush 512, 3) := by decide +kernel
theorem dX0_init_59 : decode cX0_init 59 = .ok (.newarray .int, 2) := by decide +kernel
theorem dX0_init_61 : decode cX0_init 61 = .ok (.putfield 35, 3) := by decide +kernel
theorem dX0_init_64 : decode cX0_init 64 = .ok (.aload_n 0, 1) := by decide +kernel
theorem dX0_init_65 : decode cX0_init 65 = .ok (.sipush 512, 3) := by decide +kernel
theorem dX0_init_68 : decode cX0_init 68 = .ok (.newarray .int, 2) := by decide +kernel
theorem dX0_init_70 : decode cX0_init 70 = .ok (.putfield 38, 3) := by decide +kernel
theorem dX0_init_73 : decode cX0_init 73 = .ok (.return_, 1) := by decide +kernel
theorem dX0_place_0 : decode cX0_place 0 = .ok (.aload_n 0, 1) := by decide +kernel
theorem dX0_place_1 : decode cX0_place 1 = .ok (.aload_n 1, 1) := by decide +kernel
theorem dX0_place_2 : decode cX0_place 2 = .ok (.aload_n 2, 1) := by decide +kernel
theorem dX0_place_3 : decode cX0_place 3 = .ok (.invokevirtual 41, 3) := by decide +kernel
theorem dX0_place_6 : decode cX0_place 6 = .ok (.aload_n 0, 1) := by decide +kernel
theorem dX0_place_7 : decode cX0_place 7 = .ok (.iconst 0, 1) := by decide +kernel
theorem dX0_place_8 : decode cX0_place 8 = .ok (.putfield 45, 3) := by decide +kernel
theorem dX0_place_11 : decode cX0_place 11 = .ok (.aload_n 0, 1) := by decide +kernel
theorem dX0_place_12 : decode cX0_place 12 = .ok (.iconst 0, 1) := by decide +kernel
theorem dX0_place_13 : decode cX0_place 13 = .ok (.putfield 48, 3) := by decide +kernel
theorem dX0_place_16 : decode cX0_place 16 = .ok (.aload_n 0, 1) := by decide +kernel
theorem dX0_place_17 : decode cX0_place 17 = .ok (.iconst (-1), 1) := by decide +kernel
theorem dX0_place_18 : decode cX0_place 18 = .ok (.putfield 25, 3) := by decide +kernel
theorem dX0_place_21 : decode cX0_place 21 = .ok (.aload_n 0, 1) := by decide +kernel
theorem dX0_place_22 : decode cX0_place 22 = .ok (.iconst (-1), 1) := by decide +kernel
theorem dX0_place_23 : decode cX0_place 23 = .ok (.putfield 29, 3) := by decide +kernel
theorem dX0_place_26 : decode cX0_place 26 = .ok (.iconst 0, 1) := by decide +kernel
theorem dX0_place_27 : decode cX0_place 27 = .ok (.istore_n 3, 1) := by decide +kernel
theorem dX0_place_28 : decode cX0_place 28 = .ok (.iload_n 3, 1) := by decide +kernel
theorem dX0_place_29 : decode cX0_place 29 = .ok (.aload_n 1, 1) := by decide +kernel
theorem dX0_place_30 : decode cX0_place 30 = .ok (.getfield 51, 3) := by decide +kernel
theorem dX0_place_33 : decode cX0_place 33 = .ok (.if_icmp .ge 79, 3) := by decide +kernel
theorem dX0_place_36 : decode cX0_place 36 = .ok (.aload_n 1, 1) := by decide +kernel
theorem dX0_place_37 : decode cX0_place 37 = .ok (.getfield 56, 3) := by decide +kernel
theorem dX0_place_40 : decode cX0_place 40 = .ok (.iload_n 3, 1) := by decide +kernel
theorem dX0_place_41 : decode cX0_place 41 = .ok (.iaload, 1) := by decide +kernel
theorem dX0_place_42 : decode cX0_place 42 = .ok (.istore 4, 2) := by decide +kernel
theorem dX0_place_44 : decode cX0_place 44 = .ok (.aload_n 0, 1) := by decide +kernel
theorem dX0_place_45 : decode cX0_place 45 = .ok (.aload_n 0, 1) := by decide +kernel
theorem dX0_place_46 : decode cX0_place 46 = .ok (.getfield 45, 3) := by decide +kernel
theorem dX0_place_49 : decode cX0_place 49 = .ok (.aload_n 0, 1) := by decide +kernel
theorem dX0_place_50 : decode cX0_place 50 = .ok (.getfield 9, 3) := by decide +kernel
theorem dX0_place_53 : decode cX0_place 53 = .ok (.iload 4, 2) := by decide +kernel
theorem dX0_place_55 : decode cX0_place 55 = .ok (.iaload, 1) := by decide +kernel
theorem dX0_place_56 : decode cX0_place 56 = .ok (.iconst 1, 1) := by decide +kernel
theorem dX0_place_57 : decode cX0_place 57 = .ok (.iadd, 1) := by decide +kernel
theorem dX0_place_58 : decode cX0_place 58 = .ok (.invokestatic 59, 3) := by decide +kernel
theorem dX0_place_61 : decode cX0_place 61 = .ok (.putfield 45, 3) := by decide +kernel
theorem dX0_place_64 : decode cX0_place 64 = .ok (.aload_n 0, 1) := by decide +kernel
theorem dX0_place_65 : decode cX0_place 65 = .ok (.iload 4, 2) := by decide +kernel
theorem dX0_place_67 : decode cX0_place 67 = .ok (.invokevirtual 65, 3) := by decide +kernel
theorem dX0_place_70 : decode cX0_place 70 = .ok (.aload_n 0, 1) := by decide +kernel
theorem dX0_place_71 : decode cX0_place 71 = .ok (.getfield 25, 3) := by decide +kernel
theorem dX0_place_74 : decode cX0_place 74 = .ok (.iconst (-1), 1) := by decide +kernel
theorem dX0_place_75 : decode cX0_place 75 = .ok (.if_icmp .ne 31, 3) := by decide +kernel
theorem dX0_place_78 : decode cX0_place 78 = .ok (.aload_n 0, 1) := by decide +kernel
theorem dX0_place_79 : decode cX0_place 79 = .ok (.aload_n 0, 1) := by decide +kernel
theorem dX0_place_80 : decode cX0_place 80 = .ok (.iload 4, 2) := by decide +kernel
theorem dX0_place_82 : decode cX0_place 82 = .ok (.invokevirtual 69, 3) := by decide +kernel
theorem dX0_place_85 : decode cX0_place 85 = .ok (.putfield 29, 3) := by decide +kernel
theorem dX0_place_88 : decode cX0_place 88 = .ok (.aload_n 0, 1) := by decide +kernel
theorem dX0_place_89 : decode cX0_place 89 = .ok (.aload_n 0, 1) := by decide +kernel
theorem dX0_place_90 : decode cX0_place 90 = .ok (.getfield 29, 3) := by decide +kernel
theorem dX0_place_93 : decode cX0_place 93 = .ok (.iconst (-1), 1) := by decide +kernel
theorem dX0_place_94 : decode cX0_place 94 = .ok (.if_icmp .ne 7, 3) := by decide +kernel
theorem dX0_place_97 : decode cX0_place 97 = .ok (.iconst (-1), 1) := by decide +kernel
theorem dX0_place_98 : decode cX0_place 98 = .ok (.goto 5, 3) := by decide +kernel
theorem dX0_place_101 : decode cX0_place 101 = .ok (.iload 4, 2) := by decide +kernel
theorem dX0_place_103 : decode cX0_place 103 = .ok (.putfield 25, 3) := by decide +kernel
theorem dX0_place_106 : decode cX0_place 106 = .ok (.iinc 3 1, 3) := by decide +kernel
theorem dX0_place_109 : decode cX0_place 109 = .ok (.goto (-81), 3) := by decide +kernel
theorem dX0_place_112 : decode cX0_place 112 = .ok (.iconst 0, 1) := by decide +kernel
theorem dX0_place_113 : decode cX0_place 113 = .ok (.istore_n 3, 1) := by decide +kernel
theorem dX0_place_114 : decode cX0_place 114 = .ok (.iload_n 3, 1) := by decide +kernel
theorem dX0_place_115 : decode cX0_place 115 = .ok (.aload_n 1, 1) := by decide +kernel
theorem dX0_place_116 : decode cX0_place 116 = .ok (.getfield 51, 3) := by decide +kernel
theorem dX0_place_119 : decode cX0_place 119 = .ok (.if_icmp .ge 25, 3) := by decide +kernel
theorem dX0_place_122 : decode cX0_place 122 = .ok (.aload_n 0, 1) := by decide +kernel
theorem dX0_place_123 : decode cX0_place 123 = .ok (.getfield 32, 3) := by decide +kernel
theorem dX0_place_126 : decode cX0_place 126 = .ok (.aload_n 0, 1) := by decide +kernel
theorem dX0_place_127 : decode cX0_place 127 = .ok (.aload_n 1, 1) := by decide +kernel
theorem dX0_place_128 : decode cX0_place 128 = .ok (.getfield 56, 3) := by decide +kernel
theorem dX0_place_131 : decode cX0_place 131 = .ok (.iload_n 3, 1) := by decide +kernel
theorem dX0_place_132 : decode cX0_place 132 = .ok (.iaload, 1) := by decide +kernel
theorem dX0_place_133 : decode cX0_place 133 = .ok (.invokevirtual 73, 3) := by decide +kernel
theorem dX0_place_136 : decode cX0_place 136 = .ok (.iconst 0, 1) := by decide +kernel
theorem dX0_place_137 : decode cX0_place 137 = .ok (.iastore, 1) := by decide +kernel
theorem dX0_place_138 : decode cX0_place 138 = .ok (.iinc 3 1, 3) := by decide +kernel
theorem dX0_place_141 : decode cX0_place 141 = .ok (.goto (-27), 3) := by decide +kernel
theorem dX0_place_144 : decode cX0_place 144 = .ok (.aload_n 0, 1) := by decide +kernel
theorem dX0_place_145 : decode cX0_place 145 = .ok (.iconst 1, 1) := by decide +kernel
theorem dX0_place_146 : decode cX0_place 146 = .ok (.putfield 21, 3) := by decide +kernel
theorem dX0_place_149 : decode cX0_place 149 = .ok (.return_, 1) := by decide +kernel
theorem dX0_layPoints_0 : decode cX0_layPoints 0 = .ok (.aload_n 2, 1) := by decide +kernel
theorem dX0_layPoints_1 : decode cX0_layPoints 1 = .ok (.iconst 0, 1) := by decide +kernel
theorem dX0_layPoints_2 : decode cX0_layPoints 2 = .ok (.aload_n 1, 1) := by decide +kernel
theorem dX0_layPoints_3 : decode cX0_layPoints 3 = .ok (.invokevirtual 76, 3) := by decide +kernel
theorem dX0_layPoints_6 : decode cX0_layPoints 6 = .ok (.istore_n 3, 1) := by decide +kernel
theorem dX0_layPoints_7 : decode cX0_layPoints 7 = .ok (.aload_n 2, 1) := by decide +kernel
theorem dX0_layPoints_8 : decode cX0_layPoints 8 = .ok (.iconst 1, 1) := by decide +kernel
theorem dX0_layPoints_9 : decode cX0_layPoints 9 = .ok (.aload_n 1, 1) := by decide +kernel
theorem dX0_layPoints_10 : decode cX0_layPoints 10 = .ok (.invokevirtual 76, 3) := by decide +kernel
theorem dX0_layPoints_13 : decode cX0_layPoints 13 = .ok (.istore 4, 2) := by decide +kernel
theorem dX0_layPoints_15 : decode cX0_layPoints 15 = .ok (.aload_n 2, 1) := by decide +kernel
theorem dX0_layPoints_16 : decode cX0_layPoints 16 = .ok (.iconst 2, 1) := by decide +kernel
theorem dX0_layPoints_17 : decode cX0_layPoints 17 = .ok (.aload_n 1, 1) := by decide +kernel
theorem dX0_layPoints_18 : decode cX0_layPoints 18 = .ok (.invokevirtual 76, 3) := by decide +kernel
theorem dX0_layPoints_21 : decode cX0_layPoints 21 = .ok (.istore 5, 2) := by decide +kernel
theorem dX0_layPoints_23 : decode cX0_layPoints 23 = .ok (.iconst 1, 1) := by decide +kernel
theorem dX0_layPoints_24 : decode cX0_layPoints 24 = .ok (.aload_n 2, 1) := by decide +kernel
theorem dX0_layPoints_25 : decode cX0_layPoints 25 = .ok (.getfield 82, 3) := by decide +kernel
theorem dX0_layPoints_28 : decode cX0_layPoints 28 = .ok (.invokestatic 59, 3) := by decide +kernel
theorem dX0_layPoints_31 : decode cX0_layPoints 31 = .ok (.istore 6, 2) := by decide +kernel
theorem dX0_layPoints_33 : decode cX0_layPoints 33 = .ok (.iconst 0, 1) := by decide +kernel
theorem dX0_layPoints_34 : decode cX0_layPoints 34 = .ok (.istore 7, 2) := by decide +kernel
theorem dX0_layPoints_36 : decode cX0_layPoints 36 = .ok (.iload 7, 2) := by decide +kernel
theorem dX0_layPoints_38 : decode cX0_layPoints 38 = .ok (.aload_n 1, 1) := by decide +kernel
theorem dX0_layPoints_39 : decode cX0_layPoints 39 = .ok (.getfield 51, 3) := by decide +kernel
theorem dX0_layPoints_42 : decode cX0_layPoints 42 = .ok (.if_icmp .ge 84, 3) := by decide +kernel
theorem dX0_layPoints_45 : decode cX0_layPoints 45 = .ok (.aload_n 1, 1) := by decide +kernel
theorem dX0_layPoints_46 : decode cX0_layPoints 46 = .ok (.getfield 56, 3) := by decide +kernel
theorem dX0_layPoints_49 : decode cX0_layPoints 49 = .ok (.iload 7, 2) := by decide +kernel
theorem dX0_layPoints_51 : decode cX0_layPoints 51 = .ok (.iaload, 1) := by decide +kernel
theorem dX0_layPoints_52 : decode cX0_layPoints 52 = .ok (.istore 8, 2) := by decide +kernel
theorem dX0_layPoints_54 : decode cX0_layPoints 54 = .ok (.aload_n 2, 1) := by decide +kernel
theorem dX0_layPoints_55 : decode cX0_layPoints 55 = .ok (.iconst 1, 1) := by decide +kernel
theorem dX0_layPoints_56 : decode cX0_layPoints 56 = .ok (.iload 8, 2) := by decide +kernel
theorem dX0_layPoints_58 : decode cX0_layPoints 58 = .ok (.invokevirtual 85, 3) := by decide +kernel
theorem dX0_layPoints_61 : decode cX0_layPoints 61 = .ok (.iload 4, 2) := by decide +kernel
theorem dX0_layPoints_63 : decode cX0_layPoints 63 = .ok (.isub, 1) := by decide +kernel
theorem dX0_layPoints_64 : decode cX0_layPoints 64 = .ok (.istore 9, 2) := by decide +kernel
theorem dX0_layPoints_66 : decode cX0_layPoints 66 = .ok (.aload_n 0, 1) := by decide +kernel
theorem dX0_layPoints_67 : decode cX0_layPoints 67 = .ok (.getfield 9, 3) := by decide +kernel
theorem dX0_layPoints_70 : decode cX0_layPoints 70 = .ok (.iload 8, 2) := by decide +kernel
theorem dX0_layPoints_72 : decode cX0_layPoints 72 = .ok (.iload 6, 2) := by decide +kernel
theorem dX0_layPoints_74 : decode cX0_layPoints 74 = .ok (.aload_n 2, 1) := by decide +kernel
theorem dX0_layPoints_75 : decode cX0_layPoints 75 = .ok (.iconst 0, 1) := by decide +kernel
theorem dX0_layPoints_76 : decode cX0_layPoints 76 = .ok (.iload 8, 2) := by decide +kernel
theorem dX0_layPoints_78 : decode cX0_layPoints 78 = .ok (.invokevirtual 85, 3) := by decide +kernel
theorem dX0_layPoints_81 : decode cX0_layPoints 81 = .ok (.iload_n 3, 1) := by decide +kernel
theorem dX0_layPoints_82 : decode cX0_layPoints 82 = .ok (.isub, 1) := by decide +kernel
theorem dX0_layPoints_83 : decode cX0_layPoints 83 = .ok (.imul, 1) := by decide +kernel
theorem dX0_layPoints_84 : decode cX0_layPoints 84 = .ok (.iload 9, 2) := by decide +kernel
theorem dX0_layPoints_86 : decode cX0_layPoints 86 = .ok (.iload 6, 2) := by decide +kernel
theorem dX0_layPoints_88 : decode cX0_layPoints 88 = .ok (.irem, 1) := by decide +kernel
theorem dX0_layPoints_89 : decode cX0_layPoints 89 = .ok (.iadd, 1) := by decide +kernel
theorem dX0_layPoints_90 : decode cX0_layPoints 90 = .ok (.iastore, 1) := by decide +kernel
theorem dX0_layPoints_91 : decode cX0_layPoints 91 = .ok (.aload_n 0, 1) := by decide +kernel
theorem dX0_layPoints_92 : decode cX0_layPoints 92 = .ok (.getfield 15, 3) := by decide +kernel
theorem dX0_layPoints_95 : decode cX0_layPoints 95 = .ok (.iload 8, 2) := by decide +kernel
theorem dX0_layPoints_97 : decode cX0_layPoints 97 = .ok (.iload 9, 2) := by decide +kernel
theorem dX0_layPoints_99 : decode cX0_layPoints 99 = .ok (.iload 6, 2) := by decide +kernel
theorem dX0_layPoints_101 : decode cX0_layPoints 101 = .ok (.idiv, 1) := by decide +kernel
theorem dX0_layPoints_102 : decode cX0_layPoints 102 = .ok (.iastore, 1) := by decide +kernel
theorem dX0_layPoints_103 : decode cX0_layPoints 103 = .ok (.aload_n 0, 1) := by decide +kernel
theorem dX0_layPoints_104 : decode cX0_layPoints 104 = .ok (.getfield 18, 3) := by decide +kernel
theorem dX0_layPoints_107 : decode cX0_layPoints 107 = .ok (.iload 8, 2) := by decide +kernel
theorem dX0_layPoints_109 : decode cX0_layPoints 109 = .ok (.aload_n 2, 1) := by decide +kernel
theorem dX0_layPoints_110 : decode cX0_layPoints 110 = .ok (.iconst 2, 1) := by decide +kernel
theorem dX0_layPoints_111 : decode cX0_layPoints 111 = .ok (.iload 8, 2) := by decide +kernel
theorem dX0_layPoints_113 : decode cX0_layPoints 113 = .ok (.invokevirtual 85, 3) := by decide +kernel
theorem dX0_layPoints_116 : decode cX0_layPoints 116 = .ok (.iload 5, 2) := by decide +kernel
theorem dX0_layPoints_118 : decode cX0_layPoints 118 = .ok (.isub, 1) := by decide +kernel
theorem dX0_layPoints_119 : decode cX0_layPoints 119 = .ok (.iastore, 1) := by decide +kernel
theorem dX0_layPoints_120 : decode cX0_layPoints 120 = .ok (.iinc 7 1, 3) := by decide +kernel
theorem dX0_layPoints_123 : decode cX0_layPoints 123 = .ok (.goto (-87), 3) := by decide +kernel
theorem dX0_layPoints_126 : decode cX0_layPoints 126 = .ok (.return_, 1) := by decide +kernel
theorem dX0_cellKey_0 : decode cX0_cellKey 0 = .ok (.bipush 64, 2) := by decide +kernel
theorem dX0_cellKey_2 : decode cX0_cellKey 2 = .ok (.aload_n 0, 1) := by decide +kernel
theorem dX0_cellKey_3 : decode cX0_cellKey 3 = .ok (.getfield 15, 3) := by decide +kernel
theorem dX0_cellKey_6 : decode cX0_cellKey 6 = .ok (.iload_n 1, 1) := by decide +kernel
theorem dX0_cellKey_7 : decode cX0_cellKey 7 = .ok (.iaload, 1) := by decide +kernel
theorem dX0_cellKey_8 : decode cX0_cellKey 8 = .ok (.imul, 1) := by decide +kernel
theorem dX0_cellKey_9 : decode cX0_cellKey 9 = .ok (.aload_n 0, 1) := by decide +kernel
theorem dX0_cellKey_10 : decode cX0_cellKey 10 = .ok (.getfield 18, 3) := by decide +kernel
theorem dX0_cellKey_13 : decode cX0_cellKey 13 = .ok (.iload_n 1, 1) := by decide +kernel
theorem dX0_cellKey_14 : decode cX0_cellKey 14 = .ok (.iaload, 1) := by decide +kernel
theorem dX0_cellKey_15 : decode cX0_cellKey 15 = .ok (.iadd, 1) := by decide +kernel
theorem dX0_cellKey_16 : decode cX0_cellKey 16 = .ok (.ireturn, 1) := by decide +kernel
theorem dX0_link_0 : decode cX0_link 0 = .ok (.aload_n 0, 1) := by decide +kernel
theorem dX0_link_1 : decode cX0_link 1 = .ok (.iload_n 1, 1) := by decide +kernel
theorem dX0_link_2 : decode cX0_link 2 = .ok (.invokevirtual 73, 3) := by decide +kernel
theorem dX0_link_5 : decode cX0_link 5 = .ok (.istore_n 2, 1) := by decide +kernel
theorem dX0_link_6 : decode cX0_link 6 = .ok (.aload_n 0, 1) := by decide +kernel
theorem dX0_link_7 : decode cX0_link 7 = .ok (.getfield 32, 3) := by decide +kernel
theorem dX0_link_10 : decode cX0_link 10 = .ok (.iload_n 2, 1) := by decide +kernel
theorem dX0_link_11 : decode cX0_link 11 = .ok (.iaload, 1) := by decide +kernel
theorem dX0_link_12 : decode cX0_link 12 = .ok (.ifCond .ne 13, 3) := by decide +kernel
theorem dX0_link_15 : decode cX0_link 15 = .ok (.aload_n 0, 1) := by decide +kernel
theorem dX0_link_16 : decode cX0_link 16 = .ok (.dup, 1) := by decide +kernel
theorem dX0_link_17 : decode cX0_link 17 = .ok (.getfield 48, 3) := by decide +kernel
theorem dX0_link_20 : decode cX0_link 20 = .ok (.iconst 1, 1) := by decide +kernel
theorem dX0_link_21 : decode cX0_link 21 = .ok (.iadd, 1) := by decide +kernel
theorem dX0_link_22 : decode cX0_link 22 = .ok (.putfield 48, 3) := by decide +kernel
theorem dX0_link_25 : decode cX0_link 25 = .ok (.aload_n 0, 1) := by decide +kernel
theorem dX0_link_26 : decode cX0_link 26 = .ok (.getfield 35, 3) := by decide +kernel
theorem dX0_link_29 : decode cX0_link 29 = .ok (.iload_n 1, 1) := by decide +kernel
theorem dX0_link_30 : decode cX0_link 30 = .ok (.aload_n 0, 1) := by decide +kernel
theorem dX0_link_31 : decode cX0_link 31 = .ok (.getfield 32, 3) := by decide +kernel
theorem dX0_link_34 : decode cX0_link 34 = .ok (.iload_n 2, 1) := by decide +kernel
theorem dX0_link_35 : decode cX0_link 35 = .ok (.iaload, 1) := by decide +kernel
theorem dX0_link_36 : decode cX0_link 36 = .ok (.iastore, 1) := by decide +kernel
theorem dX0_link_37 : decode cX0_link 37 = .ok (.aload_n 0, 1) := by decide +kernel
theorem dX0_link_38 : decode cX0_link 38 = .ok (.getfield 32, 3) := by decide +kernel
theorem dX0_link_41 : decode cX0_link 41 = .ok (.iload_n 2, 1) := by decide +kernel
theorem dX0_link_42 : decode cX0_link 42 = .ok (.iload_n 1, 1) := by decide +kernel
theorem dX0_link_43 : decode cX0_link 43 = .ok (.iconst 1, 1) := by decide +kernel
theorem dX0_link_44 : decode cX0_link 44 = .ok (.iadd, 1) := by decide +kernel
theorem dX0_link_45 : decode cX0_link 45 = .ok (.iastore, 1) := by decide +kernel
theorem dX0_link_46 : decode cX0_link 46 = .ok (.return_, 1) := by decide +kernel
theorem dX0_metBy_0 : decode cX0_metBy 0 = .ok (.aload_n 0, 1) := by decide +kernel
theorem dX0_metBy_1 : decode cX0_metBy 1 = .ok (.getfield 35, 3) := by decide +kernel
theorem dX0_metBy_4 : decode cX0_metBy 4 = .ok (.iload_n 1, 1) := by decide +kernel
theorem dX0_metBy_5 : decode cX0_metBy 5 = .ok (.iaload, 1) := by decide +kernel
theorem dX0_metBy_6 : decode cX0_metBy 6 = .ok (.iconst 1, 1) := by decide +kernel
theorem dX0_metBy_7 : decode cX0_metBy 7 = .ok (.isub, 1) := by decide +kernel
theorem dX0_metBy_8 : decode cX0_metBy 8 = .ok (.istore_n 2, 1) := by decide +kernel
theorem dX0_metBy_9 : decode cX0_metBy 9 = .ok (.iconst 0, 1) := by decide +kernel
theorem dX0_metBy_10 : decode cX0_metBy 10 = .ok (.istore_n 3, 1) := by decide +kernel
theorem dX0_metBy_11 : decode cX0_metBy 11 = .ok (.iload_n 3, 1) := by decide +kernel
theorem dX0_metBy_12 : decode cX0_metBy 12 = .ok (.sipush 512, 3) := by decide +kernel
theorem dX0_metBy_15 : decode cX0_metBy 15 = .ok (.if_icmp .ge 40, 3) := by decide +kernel
theorem dX0_metBy_18 : decode cX0_metBy 18 = .ok (.iload_n 2, 1) := by decide +kernel
theorem dX0_metBy_19 : decode cX0_metBy 19 = .ok (.iconst (-1), 1) := by decide +kernel
theorem dX0_metBy_20 : decode cX0_metBy 20 = .ok (.if_icmp .eq 35, 3) := by decide +kernel
theorem dX0_metBy_23 : decode cX0_metBy 23 = .ok (.aload_n 0, 1) := by decide +kernel
theorem dX0_metBy_24 : decode cX0_metBy 24 = .ok (.getfield 9, 3) := by decide +kernel
theorem dX0_metBy_27 : decode cX0_metBy 27 = .ok (.iload_n 2, 1) := by decide +kernel
theorem dX0_metBy_28 : decode cX0_metBy 28 = .ok (.iaload, 1) := by decide +kernel
theorem dX0_metBy_29 : decode cX0_metBy 29 = .ok (.aload_n 0, 1) := by decide +kernel
theorem dX0_metBy_30 : decode cX0_metBy 30 = .ok (.getfield 9, 3) := by decide +kernel
theorem dX0_metBy_33 : decode cX0_metBy 33 = .ok (.iload_n 1, 1) := by decide +kernel
theorem dX0_metBy_34 : decode cX0_metBy 34 = .ok (.iaload, 1) := by decide +kernel
theorem dX0_metBy_35 : decode cX0_metBy 35 = .ok (.if_icmp .ne 5, 3) := by decide +kernel
theorem dX0_metBy_38 : decode cX0_metBy 38 = .ok (.iload_n 2, 1) := by decide +kernel
theorem dX0_metBy_39 : decode cX0_metBy 39 = .ok (.ireturn, 1) := by decide +kernel
theorem dX0_metBy_40 : decode cX0_metBy 40 = .ok (.aload_n 0, 1) := by decide +kernel
theorem dX0_metBy_41 : decode cX0_metBy 41 = .ok (.getfield 35, 3) := by decide +kernel
theorem dX0_metBy_44 : decode cX0_metBy 44 = .ok (.iload_n 2, 1) := by decide +kernel
theorem dX0_metBy_45 : decode cX0_metBy 45 = .ok (.iaload, 1) := by decide +kernel
theorem dX0_metBy_46 : decode cX0_metBy 46 = .ok (.iconst 1, 1) := by decide +kernel
theorem dX0_metBy_47 : decode cX0_metBy 47 = .ok (.isub, 1) := by decide +kernel
theorem dX0_metBy_48 : decode cX0_metBy 48 = .ok (.istore_n 2, 1) := by decide +kernel
theorem dX0_metBy_49 : decode cX0_metBy 49 = .ok (.iinc 3 1, 3) := by decide +kernel
theorem dX0_metBy_52 : decode cX0_metBy 52 = .ok (.goto (-41), 3) := by decide +kernel
theorem dX0_metBy_55 : decode cX0_metBy 55 = .ok (.iconst (-1), 1) := by decide +kernel
theorem dX0_metBy_56 : decode cX0_metBy 56 = .ok (.ireturn, 1) := by decide +kernel
theorem dX0_use_0 : decode cX0_use 0 = .ok (.aload_n 0, 1) := by decide +kernel
theorem dX0_use_1 : decode cX0_use 1 = .ok (.getfield 45, 3) := by decide +kernel
theorem dX0_use_4 : decode cX0_use 4 = .ok (.aload_n 0, 1) := by decide +kernel
theorem dX0_use_5 : decode cX0_use 5 = .ok (.getfield 48, 3) := by decide +kernel
theorem dX0_use_8 : decode cX0_use 8 = .ok (.imul, 1) := by decide +kernel
theorem dX0_use_9 : decode cX0_use 9 = .ok (.istore_n 2, 1) := by decide +kernel
theorem dX0_use_10 : decode cX0_use 10 = .ok (.iload_n 2, 1) := by decide +kernel
theorem dX0_use_11 : decode cX0_use 11 = .ok (.ifCond .ne 7, 3) := by decide +kernel
theorem dX0_use_14 : decode cX0_use 14 = .ok (.iconst 0, 1) := by decide +kernel
theorem dX0_use_15 : decode cX0_use 15 = .ok (.goto 13, 3) := by decide +kernel
theorem dX0_use_18 : decode cX0_use 18 = .ok (.sipush 1000, 3) := by decide +kernel
theorem dX0_use_21 : decode cX0_use 21 = .ok (.aload_n 1, 1) := by decide +kernel
theorem dX0_use_22 : decode cX0_use 22 = .ok (.getfield 51, 3) := by decide +kernel
theorem dX0_use_25 : decode cX0_use 25 = .ok (.imul, 1) := by decide +kernel
theorem dX0_use_26 : decode cX0_use 26 = .ok (.iload_n 2, 1) := by decide +kernel
theorem dX0_use_27 : decode cX0_use 27 = .ok (.idiv, 1) := by decide +kernel
theorem dX0_use_28 : decode cX0_use 28 = .ok (.ireturn, 1) := by decide +kernel
theorem dX0_apart_0 : decode cX0_apart 0 = .ok (.aload_n 0, 1) := by decide +kernel
theorem dX0_apart_1 : decode cX0_apart 1 = .ok (.getfield 25, 3) := by decide +kernel
theorem dX0_apart_4 : decode cX0_apart 4 = .ok (.iconst (-1), 1) := by decide +kernel
theorem dX0_apart_5 : decode cX0_apart 5 = .ok (.if_icmp .eq 5, 3) := by decide +kernel
theorem dX0_apart_8 : decode cX0_apart 8 = .ok (.iconst (-1), 1) := by decide +kernel
theorem dX0_apart_9 : decode cX0_apart 9 = .ok (.ireturn, 1) := by decide +kernel
theorem dX0_apart_10 : decode cX0_apart 10 = .ok (.aload_n 0, 1) := by decide +kernel
theorem dX0_apart_11 : decode cX0_apart 11 = .ok (.getfield 38, 3) := by decide +kernel
theorem dX0_apart_14 : decode cX0_apart 14 = .ok (.iconst 0, 1) := by decide +kernel
theorem dX0_apart_15 : decode cX0_apart 15 = .ok (.invokestatic 88, 3) := by decide +kernel
theorem dX0_apart_18 : decode cX0_apart 18 = .ok (.iconst 0, 1) := by decide +kernel
theorem dX0_apart_19 : decode cX0_apart 19 = .ok (.istore_n 2, 1) := by decide +kernel
theorem dX0_apart_20 : decode cX0_apart 20 = .ok (.iload_n 2, 1) := by decide +kernel
theorem dX0_apart_21 : decode cX0_apart 21 = .ok (.aload_n 1, 1) := by decide +kernel
theorem dX0_apart_22 : decode cX0_apart 22 = .ok (.getfield 51, 3) := by decide +kernel
theorem dX0_apart_25 : decode cX0_apart 25 = .ok (.if_icmp .ge 19, 3) := by decide +kernel
theorem dX0_apart_28 : decode cX0_apart 28 = .ok (.aload_n 0, 1) := by decide +kernel
theorem dX0_apart_29 : decode cX0_apart 29 = .ok (.aload_n 1, 1) := by decide +kernel
theorem dX0_apart_30 : decode cX0_apart 30 = .ok (.getfield 56, 3) := by decide +kernel
theorem dX0_apart_33 : decode cX0_apart 33 = .ok (.iload_n 2, 1) := by decide +kernel
theorem dX0_apart_34 : decode cX0_apart 34 = .ok (.iaload, 1) := by decide +kernel
theorem dX0_apart_35 : decode cX0_apart 35 = .ok (.invokevirtual 94, 3) := by decide +kernel
theorem dX0_apart_38 : decode cX0_apart 38 = .ok (.iinc 2 1, 3) := by decide +kernel
theorem dX0_apart_41 : decode cX0_apart 41 = .ok (.goto (-21), 3) := by decide +kernel
theorem dX0_apart_44 : decode cX0_apart 44 = .ok (.iconst 1, 1) := by decide +kernel
theorem dX0_apart_45 : decode cX0_apart 45 = .ok (.istore_n 2, 1) := by decide +kernel
theorem dX0_apart_46 : decode cX0_apart 46 = .ok (.iload_n 2, 1) := by decide +kernel
theorem dX0_apart_47 : decode cX0_apart 47 = .ok (.aload_n 0, 1) := by decide +kernel
theorem dX0_apart_48 : decode cX0_apart 48 = .ok (.getfield 45, 3) := by decide +kernel
theorem dX0_apart_51 : decode cX0_apart 51 = .ok (.if_icmp .ge 17, 3) := by decide +kernel
theorem dX0_apart_54 : decode cX0_apart 54 = .ok (.aload_n 0, 1) := by decide +kernel
theorem dX0_apart_55 : decode cX0_apart 55 = .ok (.iload_n 2, 1) := by decide +kernel
theorem dX0_apart_56 : decode cX0_apart 56 = .ok (.invokevirtual 97, 3) := by decide +kernel
theorem dX0_apart_59 : decode cX0_apart 59 = .ok (.ifCond .ne 9, 3) := by decide +kernel
theorem dX0_apart_62 : decode cX0_apart 62 = .ok (.iinc 2 1, 3) := by decide +kernel
theorem dX0_apart_65 : decode cX0_apart 65 = .ok (.goto (-19), 3) := by decide +kernel
theorem dX0_apart_68 : decode cX0_apart 68 = .ok (.iload_n 2, 1) := by decide +kernel
theorem dX0_apart_69 : decode cX0_apart 69 = .ok (.ireturn, 1) := by decide +kernel
theorem dX0_markBetween_0 : decode cX0_markBetween 0 = .ok (.aload_n 0, 1) := by decide +kernel
theorem dX0_markBetween_1 : decode cX0_markBetween 1 = .ok (.getfield 35, 3) := by decide +kernel
theorem dX0_markBetween_4 : decode cX0_markBetween 4 = .ok (.iload_n 1, 1) := by decide +kernel
theorem dX0_markBetween_5 : decode cX0_markBetween 5 = .ok (.iaload, 1) := by decide +kernel
theorem dX0_markBetween_6 : decode cX0_markBetween 6 = .ok (.iconst 1, 1) := by decide +kernel
theorem dX0_markBetween_7 : decode cX0_markBetween 7 = .ok (.isub, 1) := by decide +kernel
theorem dX0_markBetween_8 : decode cX0_markBetween 8 = .ok (.istore_n 2, 1) := by decide +kernel
theorem dX0_markBetween_9 : decode cX0_markBetween 9 = .ok (.iconst 0, 1) := by decide +kernel
theorem dX0_markBetween_10 : decode cX0_markBetween 10 = .ok (.istore_n 3, 1) := by decide +kernel
theorem dX0_markBetween_11 : decode cX0_markBetween 11 = .ok (.iload_n 3, 1) := by decide +kernel
theorem dX0_markBetween_12 : decode cX0_markBetween 12 = .ok (.sipush 512, 3) := by decide +kernel
theorem dX0_markBetween_15 : decode cX0_markBetween 15 = .ok (.if_icmp .ge 45, 3) := by decide +kernel
theorem dX0_markBetween_18 : decode cX0_markBetween 18 = .ok (.iload_n 2, 1) := by decide +kernel
theorem dX0_markBetween_19 : decode cX0_markBetween 19 = .ok (.iconst (-1), 1) := by decide +kernel
theorem dX0_markBetween_20 : decode cX0_markBetween 20 = .ok (.if_icmp .eq 40, 3) := by decide +kernel
theorem dX0_markBetween_23 : decode cX0_markBetween 23 = .ok (.aload_n 0, 1) := by decide +kernel
theorem dX0_markBetween_24 : decode cX0_markBetween 24 = .ok (.getfield 38, 3) := by decide +kernel
theorem dX0_markBetween_27 : decode cX0_markBetween 27 = .ok (.aload_n 0, 1) := by decide +kernel
theorem dX0_markBetween_28 : decode cX0_markBetween 28 = .ok (.getfield 9, 3) := by decide +kernel
theorem dX0_markBetween_31 : decode cX0_markBetween 31 = .ok (.iload_n 1, 1) := by decide +kernel
theorem dX0_markBetween_32 : decode cX0_markBetween 32 = .ok (.iaload, 1) := by decide +kernel
theorem dX0_markBetween_33 : decode cX0_markBetween 33 = .ok (.aload_n 0, 1) := by decide +kernel
theorem dX0_markBetween_34 : decode cX0_markBetween 34 = .ok (.getfield 9, 3) := by decide +kernel
theorem dX0_markBetween_37 : decode cX0_markBetween 37 = .ok (.iload_n 2, 1) := by decide +kernel
theorem dX0_markBetween_38 : decode cX0_markBetween 38 = .ok (.iaload, 1) := by decide +kernel
theorem dX0_markBetween_39 : decode cX0_markBetween 39 = .ok (.isub, 1) := by decide +kernel
theorem dX0_markBetween_40 : decode cX0_markBetween 40 = .ok (.invokestatic 101, 3) := by decide +kernel
theorem dX0_markBetween_43 : decode cX0_markBetween 43 = .ok (.iconst 1, 1) := by decide +kernel
theorem dX0_markBetween_44 : decode cX0_markBetween 44 = .ok (.iastore, 1) := by decide +kernel
theorem dX0_markBetween_45 : decode cX0_markBetween 45 = .ok (.aload_n 0, 1) := by decide +kernel
theorem dX0_markBetween_46 : decode cX0_markBetween 46 = .ok (.getfield 35, 3) := by decide +kernel
theorem dX0_markBetween_49 : decode cX0_markBetween 49 = .ok (.iload_n 2, 1) := by decide +kernel
theorem dX0_markBetween_50 : decode cX0_markBetween 50 = .ok (.iaload, 1) := by decide +kernel
theorem dX0_markBetween_51 : decode cX0_markBetween 51 = .ok (.iconst 1, 1) := by decide +kernel
theorem dX0_markBetween_52 : decode cX0_markBetween 52 = .ok (.isub, 1) := by decide +kernel
theorem dX0_markBetween_53 : decode cX0_markBetween 53 = .ok (.istore_n 2, 1) := by decide +kernel
theorem dX0_markBetween_54 : decode cX0_markBetween 54 = .ok (.iinc 3 1, 3) := by decide +kernel
theorem dX0_markBetween_57 : decode cX0_markBetween 57 = .ok (.goto (-46), 3) := by decide +kernel
theorem dX0_markBetween_60 : decode cX0_markBetween 60 = .ok (.return_, 1) := by decide +kernel
theorem dX0_isFree_0 : decode cX0_isFree 0 = .ok (.iconst 1, 1) := by decide +kernel
theorem dX0_isFree_1 : decode cX0_isFree 1 = .ok (.istore_n 2, 1) := by decide +kernel
theorem dX0_isFree_2 : decode cX0_isFree 2 = .ok (.iload_n 2, 1) := by decide +kernel
theorem dX0_isFree_3 : decode cX0_isFree 3 = .ok (.aload_n 0, 1) := by decide +kernel
theorem dX0_isFree_4 : decode cX0_isFree 4 = .ok (.getfield 45, 3) := by decide +kernel
theorem dX0_isFree_7 : decode cX0_isFree 7 = .ok (.if_icmp .ge 32, 3) := by decide +kernel
theorem dX0_isFree_10 : decode cX0_isFree 10 = .ok (.iload_n 2, 1) := by decide +kernel
theorem dX0_isFree_11 : decode cX0_isFree 11 = .ok (.iload_n 1, 1) := by decide +kernel
theorem dX0_isFree_12 : decode cX0_isFree 12 = .ok (.imul, 1) := by decide +kernel
theorem dX0_isFree_13 : decode cX0_isFree 13 = .ok (.aload_n 0, 1) := by decide +kernel
theorem dX0_isFree_14 : decode cX0_isFree 14 = .ok (.getfield 45, 3) := by decide +kernel
theorem dX0_isFree_17 : decode cX0_isFree 17 = .ok (.if_icmp .ge 22, 3) := by decide +kernel
theorem dX0_isFree_20 : decode cX0_isFree 20 = .ok (.aload_n 0, 1) := by decide +kernel
theorem dX0_isFree_21 : decode cX0_isFree 21 = .ok (.getfield 38, 3) := by decide +kernel
theorem dX0_isFree_24 : decode cX0_isFree 24 = .ok (.iload_n 2, 1) := by decide +kernel
theorem dX0_isFree_25 : decode cX0_isFree 25 = .ok (.iload_n 1, 1) := by decide +kernel
theorem dX0_isFree_26 : decode cX0_isFree 26 = .ok (.imul, 1) := by decide +kernel
theorem dX0_isFree_27 : decode cX0_isFree 27 = .ok (.iaload, 1) := by decide +kernel
theorem dX0_isFree_28 : decode cX0_isFree 28 = .ok (.ifCond .eq 5, 3) := by decide +kernel
theorem dX0_isFree_31 : decode cX0_isFree 31 = .ok (.iconst 0, 1) := by decide +kernel
theorem dX0_isFree_32 : decode cX0_isFree 32 = .ok (.ireturn, 1) := by decide +kernel
theorem dX0_isFree_33 : decode cX0_isFree 33 = .ok (.iinc 2 1, 3) := by decide +kernel
theorem dX0_isFree_36 : decode cX0_isFree 36 = .ok (.goto (-34), 3) := by decide +kernel
theorem dX0_isFree_39 : decode cX0_isFree 39 = .ok (.iconst 1, 1) := by decide +kernel
theorem dX0_isFree_40 : decode cX0_isFree 40 = .ok (.ireturn, 1) := by decide +kernel
