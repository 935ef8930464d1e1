theorem dX6_init_0 : decode cX6_init 0 = .ok (.aload_n 0, 1) := by decide +kernel
theorem dX6_init_1 : decode cX6_init 1 = .ok (.invokespecial 1, 3) := by decide +kernel
theorem dX6_init_4 : decode cX6_init 4 = .ok (.aload_n 0, 1) := by decide +kernel
theorem dX6_init_5 : decode cX6_init 5 = .ok (.iconst 3, 1) := by decide +kernel
theorem dX6_init_6 : decode cX6_init 6 = .ok (.newarray .int, 2) := by decide +kernel
theorem dX6_init_8 : decode cX6_init 8 = .ok (.dup, 1) := by decide +kernel
theorem dX6_init_9 : decode cX6_init 9 = .ok (.iconst 0, 1) := by decide +kernel
theorem dX6_init_10 : decode cX6_init 10 = .ok (.iconst 1, 1) := by decide +kernel
theorem dX6_init_11 : decode cX6_init 11 = .ok (.iastore, 1) := by decide +kernel
theorem dX6_init_12 : decode cX6_init 12 = .ok (.dup, 1) := by decide +kernel
theorem dX6_init_13 : decode cX6_init 13 = .ok (.iconst 1, 1) := by decide +kernel
theorem dX6_init_14 : decode cX6_init 14 = .ok (.iconst 1, 1) := by decide +kernel
theorem dX6_init_15 : decode cX6_init 15 = .ok (.iastore, 1) := by decide +kernel
theorem dX6_init_16 : decode cX6_init 16 = .ok (.dup, 1) := by decide +kernel
theorem dX6_init_17 : decode cX6_init 17 = .ok (.iconst 2, 1) := by decide +kernel
theorem dX6_init_18 : decode cX6_init 18 = .ok (.iconst 1, 1) := by decide +kernel
theorem dX6_init_19 : decode cX6_init 19 = .ok (.iastore, 1) := by decide +kernel
theorem dX6_init_20 : decode cX6_init 20 = .ok (.putfield 7, 3) := by decide +kernel
theorem dX6_init_23 : decode cX6_init 23 = .ok (.aload_n 0, 1) := by decide +kernel
theorem dX6_init_24 : decode cX6_init 24 = .ok (.bipush 12, 2) := by decide +kernel
theorem dX6_init_26 : decode cX6_init 26 = .ok (.newarray .int, 2) := by decide +kernel
theorem dX6_init_28 : decode cX6_init 28 = .ok (.putfield 13, 3) := by decide +kernel
theorem dX6_init_31 : decode cX6_init 31 = .ok (.aload_n 0, 1) := by decide +kernel
theorem dX6_init_32 : decode cX6_init 32 = .ok (.iconst 4, 1) := by decide +kernel
theorem dX6_init_33 : decode cX6_init 33 = .ok (.newarray .int, 2) := by decide +kernel
theorem dX6_init_35 : decode cX6_init 35 = .ok (.putfield 16, 3) := by decide +kernel
theorem dX6_init_38 : decode cX6_init 38 = .ok (.aload_n 0, 1) := by decide +kernel
theorem dX6_init_39 : decode cX6_init 39 = .ok (.iconst 4, 1) := by decide +kernel
theorem dX6_init_40 : decode cX6_init 40 = .ok (.newarray .int, 2) := by decide +kernel
theorem dX6_init_42 : decode cX6_init 42 = .ok (.putfield 19, 3) := by decide +kernel
theorem dX6_init_45 : decode cX6_init 45 = .ok (.aload_n 0, 1) := by decide +kernel
theorem dX6_init_46 : decode cX6_init 46 = .ok (.iconst 4, 1) := by decide +kernel
theorem dX6_init_47 : decode cX6_init 47 = .ok (.newarray .int, 2) := by decide +kernel
theorem dX6_init_49 : decode cX6_init 49 = .ok (.putfield 22, 3) := by decide +kernel
theorem dX6_init_52 : decode cX6_init 52 = .ok (.aload_n 0, 1) := by decide +kernel
theorem dX6_init_53 : decode cX6_init 53 = .ok (.sipush 2048, 3) := by decide +kernel
theorem dX6_init_56 : decode cX6_init 56 = .ok (.newarray .int, 2) := by decide +kernel
theorem dX6_init_58 : decode cX6_init 58 = .ok (.putfield 25, 3) := by decide +kernel
theorem dX6_init_61 : decode cX6_init 61 = .ok (.aload_n 0, 1) := by decide +kernel
theorem dX6_init_62 : decode cX6_init 62 = .ok (.bipush 9, 2) := by decide +kernel
theorem dX6_init_64 : decode cX6_init 64 = .ok (.newarray .int, 2) := by decide +kernel
theorem dX6_init_66 : decode cX6_init 66 = .ok (.dup, 1) := by decide +kernel
theorem dX6_init_67 : decode cX6_init 67 = .ok (.iconst 0, 1) := by decide +kernel
theorem dX6_init_68 : decode cX6_init 68 = .ok (.iconst 1, 1) := by decide +kernel
theorem dX6_init_69 : decode cX6_init 69 = .ok (.iastore, 1) := by decide +kernel
theorem dX6_init_70 : decode cX6_init 70 = .ok (.dup, 1) := by decide +kernel
theorem dX6_init_71 : decode cX6_init 71 = .ok (.iconst 1, 1) := by decide +kernel
theorem dX6_init_72 : decode cX6_init 72 = .ok (.iconst 1, 1) := by decide +kernel
theorem dX6_init_73 : decode cX6_init 73 = .ok (.iastore, 1) := by decide +kernel
theorem dX6_init_74 : decode cX6_init 74 = .ok (.dup, 1) := by decide +kernel
theorem dX6_init_75 : decode cX6_init 75 = .ok (.iconst 2, 1) := by decide +kernel
theorem dX6_init_76 : decode cX6_init 76 = .ok (.iconst 1, 1) := by decide +kernel
theorem dX6_init_77 : decode cX6_init 77 = .ok (.iastore, 1) := by decide +kernel
theorem dX6_init_78 : decode cX6_init 78 = .ok (.dup, 1) := by decide +kernel
theorem dX6_init_79 : decode cX6_init 79 = .ok (.iconst 3, 1) := by decide +kernel
theorem dX6_init_80 : decode cX6_init 80 = .ok (.iconst 1, 1) := by decide +kernel
theorem dX6_init_81 : decode cX6_init 81 = .ok (.iastore, 1) := by decide +kernel
theorem dX6_init_82 : decode cX6_init 82 = .ok (.dup, 1) := by decide +kernel
theorem dX6_init_83 : decode cX6_init 83 = .ok (.iconst 4, 1) := by decide +kernel
theorem dX6_init_84 : decode cX6_init 84 = .ok (.iconst 0, 1) := by decide +kernel
theorem dX6_init_85 : decode cX6_init 85 = .ok (.iastore, 1) := by decide +kernel
theorem dX6_init_86 : decode cX6_init 86 = .ok (.dup, 1) := by decide +kernel
theorem dX6_init_87 : decode cX6_init 87 = .ok (.iconst 5, 1) := by decide +kernel
theorem dX6_init_88 : decode cX6_init 88 = .ok (.iconst 0, 1) := by decide +kernel
theorem dX6_init_89 : decode cX6_init 89 = .ok (.iastore, 1) := by decide +kernel
theorem dX6_init_90 : decode cX6_init 90 = .ok (.dup, 1) := by decide +kernel
theorem dX6_init_91 : decode cX6_init 91 = .ok (.bipush 6, 2) := by decide +kernel
theorem dX6_init_93 : decode cX6_init 93 = .ok (.iconst 0, 1) := by decide +kernel
theorem dX6_init_94 : decode cX6_init 94 = .ok (.iastore, 1) := by decide +kernel
theorem dX6_init_95 : decode cX6_init 95 = .ok (.dup, 1) := by decide +kernel
theorem dX6_init_96 : decode cX6_init 96 = .ok (.bipush 7, 2) := by decide +kernel
theorem dX6_init_98 : decode cX6_init 98 = .ok (.iconst 0, 1) := by decide +kernel
theorem dX6_init_99 : decode cX6_init 99 = .ok (.iastore, 1) := by decide +kernel
theorem dX6_init_100 : decode cX6_init 100 = .ok (.dup, 1) := by decide +kernel
theorem dX6_init_101 : decode cX6_init 101 = .ok (.bipush 8, 2) := by decide +kernel
theorem dX6_init_103 : decode cX6_init 103 = .ok (.iconst 0, 1) := by decide +kernel
theorem dX6_init_104 : decode cX6_init 104 = .ok (.iastore, 1) := by decide +kernel
theorem dX6_init_105 : decode cX6_init 105 = .ok (.putfield 28, 3) := by decide +kernel
theorem dX6_init_108 : decode cX6_init 108 = .ok (.aload_n 0, 1) := by decide +kernel
theorem dX6_init_109 : decode cX6_init 109 = .ok (.iconst 1, 1) := by decide +kernel
theorem dX6_init_110 : decode cX6_init 110 = .ok (.putfield 31, 3) := by decide +kernel
theorem dX6_init_113 : decode cX6_init 113 = .ok (.aload_n 0, 1) := by decide +kernel
theorem dX6_init_114 : decode cX6_init 114 = .ok (.sipush 2048, 3) := by decide +kernel
theorem dX6_init_117 : decode cX6_init 117 = .ok (.newarray .int, 2) := by decide +kernel
theorem dX6_init_119 : decode cX6_init 119 = .ok (.putfield 35, 3) := by decide +kernel
theorem dX6_init_122 : decode cX6_init 122 = .ok (.aload_n 0, 1) := by decide +kernel
theorem dX6_init_123 : decode cX6_init 123 = .ok (.sipush 2048, 3) := by decide +kernel
theorem dX6_init_126 : decode cX6_init 126 = .ok (.newarray .int, 2) := by decide +kernel
theorem dX6_init_128 : decode cX6_init 128 = .ok (.putfield 38, 3) := by decide +kernel
theorem dX6_init_131 : decode cX6_init 131 = .ok (.aload_n 0, 1) := by decide +kernel
theorem dX6_init_132 : decode cX6_init 132 = .ok (.sipush 4096, 3) := by decide +kernel
theorem dX6_init_135 : decode cX6_init 135 = .ok (.newarray .boolean, 2) := by decide +kernel
theorem dX6_init_137 : decode cX6_init 137 = .ok (.putfield 41, 3) := by decide +kernel
theorem dX6_init_140 : decode cX6_init 140 = .ok (.aload_n 0, 1) := by decide +kernel
theorem dX6_init_141 : decode cX6_init 141 = .ok (.sipush 1024, 3) := by decide +kernel
theorem dX6_init_144 : decode cX6_init 144 = .ok (.newarray .boolean, 2) := by decide +kernel
theorem dX6_init_146 : decode cX6_init 146 = .ok (.putfield 45, 3) := by decide +kernel
theorem dX6_init_149 : decode cX6_init 149 = .ok (.aload_n 0, 1) := by decide +kernel
theorem dX6_init_150 : decode cX6_init 150 = .ok (.bipush 9, 2) := by decide +kernel
theorem dX6_init_152 : decode cX6_init 152 = .ok (.newarray .int, 2) := by decide +kernel
theorem dX6_init_154 : decode cX6_init 154 = .ok (.putfield 48, 3) := by decide +kernel
theorem dX6_init_157 : decode cX6_init 157 = .ok (.aload_n 0, 1) := by decide +kernel
theorem dX6_init_158 : decode cX6_init 158 = .ok (.bipush 9, 2) := by decide +kernel
theorem dX6_init_160 : decode cX6_init 160 = .ok (.newarray .int, 2) := by decide +kernel
theorem dX6_init_162 : decode cX6_init 162 = .ok (.putfield 51, 3) := by decide +kernel
theorem dX6_init_165 : decode cX6_init 165 = .ok (.return_, 1) := by decide +kernel
theorem dX6_in_0 : decode cX6_in 0 = .ok (.iload_n 0, 1) := by decide +kernel
theorem dX6_in_1 : decode cX6_in 1 = .ok (.iload_n 1, 1) := by decide +kernel
theorem dX6_in_2 : decode cX6_in 2 = .ok (.if_icmp .lt 12, 3) := by decide +kernel
theorem dX6_in_5 : decode cX6_in 5 = .ok (.iload_n 0, 1) := by decide +kernel
theorem dX6_in_6 : decode cX6_in 6 = .ok (.iload_n 2, 1) := by decide +kernel
theorem dX6_in_7 : decode cX6_in 7 = .ok (.if_icmp .gt 7, 3) := by decide +kernel
theorem dX6_in_10 : decode cX6_in 10 = .ok (.iconst 1, 1) := by decide +kernel
theorem dX6_in_11 : decode cX6_in 11 = .ok (.goto 4, 3) := by decide +kernel
theorem dX6_in_14 : decode cX6_in 14 = .ok (.iconst 0, 1) := by decide +kernel
theorem dX6_in_15 : decode cX6_in 15 = .ok (.ireturn, 1) := by decide +kernel
theorem dX6_absolute_0 : decode cX6_absolute 0 = .ok (.iload_n 0, 1) := by decide +kernel
theorem dX6_absolute_1 : decode cX6_absolute 1 = .ok (.ifCond .ge 8, 3) := by decide +kernel
theorem dX6_absolute_4 : decode cX6_absolute 4 = .ok (.iload_n 0, 1) := by decide +kernel
theorem dX6_absolute_5 : decode cX6_absolute 5 = .ok (.ineg, 1) := by decide +kernel
theorem dX6_absolute_6 : decode cX6_absolute 6 = .ok (.goto 4, 3) := by decide +kernel
theorem dX6_absolute_9 : decode cX6_absolute 9 = .ok (.iload_n 0, 1) := by decide +kernel
theorem dX6_absolute_10 : decode cX6_absolute 10 = .ok (.ireturn, 1) := by decide +kernel
theorem dX6_isPoint_0 : decode cX6_isPoint 0 = .ok (.iload_n 1, 1) := by decide +kernel
theorem dX6_isPoint_1 : decode cX6_isPoint 1 = .ok (.iconst 0, 1) := by decide +kernel
theorem dX6_isPoint_2 : decode cX6_isPoint 2 = .ok (.aload_n 0, 1) := by decide +kernel
theorem dX6_isPoint_3 : decode cX6_isPoint 3 = .ok (.getfield 7, 3) := by decide +kernel
theorem dX6_isPoint_6 : decode cX6_isPoint 6 = .ok (.iconst 0, 1) := by decide +kernel
theorem dX6_isPoint_7 : decode cX6_isPoint 7 = .ok (.iaload, 1) := by decide +kernel
theorem dX6_isPoint_8 : decode cX6_isPoint 8 = .ok (.iconst 1, 1) := by decide +kernel
theorem dX6_isPoint_9 : decode cX6_isPoint 9 = .ok (.isub, 1) := by decide +kernel
theorem dX6_isPoint_10 : decode cX6_isPoint 10 = .ok (.invokestatic 54, 3) := by decide +kernel
theorem dX6_isPoint_13 : decode cX6_isPoint 13 = .ok (.ifCond .eq 39, 3) := by decide +kernel
theorem dX6_isPoint_16 : decode cX6_isPoint 16 = .ok (.iload_n 2, 1) := by decide +kernel
theorem dX6_isPoint_17 : decode cX6_isPoint 17 = .ok (.iconst 0, 1) := by decide +kernel
theorem dX6_isPoint_18 : decode cX6_isPoint 18 = .ok (.aload_n 0, 1) := by decide +kernel
theorem dX6_isPoint_19 : decode cX6_isPoint 19 = .ok (.getfield 7, 3) := by decide +kernel
theorem dX6_isPoint_22 : decode cX6_isPoint 22 = .ok (.iconst 1, 1) := by decide +kernel
theorem dX6_isPoint_23 : decode cX6_isPoint 23 = .ok (.iaload, 1) := by decide +kernel
theorem dX6_isPoint_24 : decode cX6_isPoint 24 = .ok (.iconst 1, 1) := by decide +kernel
theorem dX6_isPoint_25 : decode cX6_isPoint 25 = .ok (.isub, 1) := by decide +kernel
theorem dX6_isPoint_26 : decode cX6_isPoint 26 = .ok (.invokestatic 54, 3) := by decide +kernel
theorem dX6_isPoint_29 : decode cX6_isPoint 29 = .ok (.ifCond .eq 23, 3) := by decide +kernel
theorem dX6_isPoint_32 : decode cX6_isPoint 32 = .ok (.iload_n 3, 1) := by decide +kernel
theorem dX6_isPoint_33 : decode cX6_isPoint 33 = .ok (.iconst 0, 1) := by decide +kernel
theorem dX6_isPoint_34 : decode cX6_isPoint 34 = .ok (.aload_n 0, 1) := by decide +kernel
theorem dX6_isPoint_35 : decode cX6_isPoint 35 = .ok (.getfield 7, 3) := by decide +kernel
theorem dX6_isPoint_38 : decode cX6_isPoint 38 = .ok (.iconst 2, 1) := by decide +kernel
theorem dX6_isPoint_39 : decode cX6_isPoint 39 = .ok (.iaload, 1) := by decide +kernel
theorem dX6_isPoint_40 : decode cX6_isPoint 40 = .ok (.iconst 1, 1) := by decide +kernel
theorem dX6_isPoint_41 : decode cX6_isPoint 41 = .ok (.isub, 1) := by decide +kernel
theorem dX6_isPoint_42 : decode cX6_isPoint 42 = .ok (.invokestatic 54, 3) := by decide +kernel
theorem dX6_isPoint_45 : decode cX6_isPoint 45 = .ok (.ifCond .eq 7, 3) := by decide +kernel
theorem dX6_isPoint_48 : decode cX6_isPoint 48 = .ok (.iconst 1, 1) := by decide +kernel
theorem dX6_isPoint_49 : decode cX6_isPoint 49 = .ok (.goto 4, 3) := by decide +kernel
theorem dX6_isPoint_52 : decode cX6_isPoint 52 = .ok (.iconst 0, 1) := by decide +kernel
theorem dX6_isPoint_53 : decode cX6_isPoint 53 = .ok (.ireturn, 1) := by decide +kernel
theorem dX6_isVariable_0 : decode cX6_isVariable 0 = .ok (.iload_n 1, 1) := by decide +kernel
theorem dX6_isVariable_1 : decode cX6_isVariable 1 = .ok (.iconst 0, 1) := by decide +kernel
theorem dX6_isVariable_2 : decode cX6_isVariable 2 = .ok (.aload_n 0, 1) := by decide +kernel
theorem dX6_isVariable_3 : decode cX6_isVariable 3 = .ok (.getfield 58, 3) := by decide +kernel
theorem dX6_isVariable_6 : decode cX6_isVariable 6 = .ok (.iconst 1, 1) := by decide +kernel
theorem dX6_isVariable_7 : decode cX6_isVariable 7 = .ok (.isub, 1) := by decide +kernel
theorem dX6_isVariable_8 : decode cX6_isVariable 8 = .ok (.invokestatic 54, 3) := by decide +kernel
theorem dX6_isVariable_11 : decode cX6_isVariable 11 = .ok (.ireturn, 1) := by decide +kernel
theorem dX6_ahead_0 : decode cX6_ahead 0 = .ok (.iload_n 2, 1) := by decide +kernel
theorem dX6_ahead_1 : decode cX6_ahead 1 = .ok (.bipush 64, 2) := by decide +kernel
theorem dX6_ahead_3 : decode cX6_ahead 3 = .ok (.idiv, 1) := by decide +kernel
theorem dX6_ahead_4 : decode cX6_ahead 4 = .ok (.aload_n 0, 1) := by decide +kernel
theorem dX6_ahead_5 : decode cX6_ahead 5 = .ok (.getfield 13, 3) := by decide +kernel
theorem dX6_ahead_8 : decode cX6_ahead 8 = .ok (.iconst 3, 1) := by decide +kernel
theorem dX6_ahead_9 : decode cX6_ahead 9 = .ok (.iload_n 1, 1) := by decide +kernel
theorem dX6_ahead_10 : decode cX6_ahead 10 = .ok (.imul, 1) := by decide +kernel
theorem dX6_ahead_11 : decode cX6_ahead 11 = .ok (.iaload, 1) := by decide +kernel
theorem dX6_ahead_12 : decode cX6_ahead 12 = .ok (.isub, 1) := by decide +kernel
theorem dX6_ahead_13 : decode cX6_ahead 13 = .ok (.istore_n 3, 1) := by decide +kernel
theorem dX6_ahead_14 : decode cX6_ahead 14 = .ok (.iload_n 2, 1) := by decide +kernel
theorem dX6_ahead_15 : decode cX6_ahead 15 = .ok (.bipush 8, 2) := by decide +kernel
theorem dX6_ahead_17 : decode cX6_ahead 17 = .ok (.idiv, 1) := by decide +kernel
theorem dX6_ahead_18 : decode cX6_ahead 18 = .ok (.bipush 8, 2) := by decide +kernel
theorem dX6_ahead_20 : decode cX6_ahead 20 = .ok (.irem, 1) := by decide +kernel
theorem dX6_ahead_21 : decode cX6_ahead 21 = .ok (.aload_n 0, 1) := by decide +kernel
theorem dX6_ahead_22 : decode cX6_ahead 22 = .ok (.getfield 13, 3) := by decide +kernel
theorem dX6_ahead_25 : decode cX6_ahead 25 = .ok (.iconst 3, 1) := by decide +kernel
theorem dX6_ahead_26 : decode cX6_ahead 26 = .ok (.iload_n 1, 1) := by decide +kernel
theorem dX6_ahead_27 : decode cX6_ahead 27 = .ok (.imul, 1) := by decide +kernel
theorem dX6_ahead_28 : decode cX6_ahead 28 = .ok (.iconst 1, 1) := by decide +kernel
theorem dX6_ahead_29 : decode cX6_ahead 29 = .ok (.iadd, 1) := by decide +kernel
theorem dX6_ahead_30 : decode cX6_ahead 30 = .ok (.iaload, 1) := by decide +kernel
theorem dX6_ahead_31 : decode cX6_ahead 31 = .ok (.isub, 1) := by decide +kernel
theorem dX6_ahead_32 : decode cX6_ahead 32 = .ok (.istore 4, 2) := by decide +kernel
theorem dX6_ahead_34 : decode cX6_ahead 34 = .ok (.iload_n 2, 1) := by decide +kernel
theorem dX6_ahead_35 : decode cX6_ahead 35 = .ok (.bipush 8, 2) := by decide +kernel
theorem dX6_ahead_37 : decode cX6_ahead 37 = .ok (.irem, 1) := by decide +kernel
theorem dX6_ahead_38 : decode cX6_ahead 38 = .ok (.aload_n 0, 1) := by decide +kernel
theorem dX6_ahead_39 : decode cX6_ahead 39 = .ok (.getfield 13, 3) := by decide +kernel
theorem dX6_ahead_42 : decode cX6_ahead 42 = .ok (.iconst 3, 1) := by decide +kernel
theorem dX6_ahead_43 : decode cX6_ahead 43 = .ok (.iload_n 1, 1) := by decide +kernel
theorem dX6_ahead_44 : decode cX6_ahead 44 = .ok (.imul, 1) := by decide +kernel
theorem dX6_ahead_45 : decode cX6_ahead 45 = .ok (.iconst 2, 1) := by decide +kernel
theorem dX6_ahead_46 : decode cX6_ahead 46 = .ok (.iadd, 1) := by decide +kernel
theorem dX6_ahead_47 : decode cX6_ahead 47 = .ok (.iaload, 1) := by decide +kernel
theorem dX6_ahead_48 : decode cX6_ahead 48 = .ok (.isub, 1) := by decide +kernel
theorem dX6_ahead_49 : decode cX6_ahead 49 = .ok (.istore 5, 2) := by decide +kernel
theorem dX6_ahead_51 : decode cX6_ahead 51 = .ok (.aload_n 0, 1) := by decide +kernel
theorem dX6_ahead_52 : decode cX6_ahead 52 = .ok (.iload_n 3, 1) := by decide +kernel
theorem dX6_ahead_53 : decode cX6_ahead 53 = .ok (.iload 4, 2) := by decide +kernel
theorem dX6_ahead_55 : decode cX6_ahead 55 = .ok (.iload 5, 2) := by decide +kernel
theorem dX6_ahead_57 : decode cX6_ahead 57 = .ok (.invokevirtual 61, 3) := by decide +kernel
theorem dX6_ahead_60 : decode cX6_ahead 60 = .ok (.ifCond .eq 19, 3) := by decide +kernel
theorem dX6_ahead_63 : decode cX6_ahead 63 = .ok (.bipush 64, 2) := by decide +kernel
theorem dX6_ahead_65 : decode cX6_ahead 65 = .ok (.iload_n 3, 1) := by decide +kernel
theorem dX6_ahead_66 : decode cX6_ahead 66 = .ok (.imul, 1) := by decide +kernel
theorem dX6_ahead_67 : decode cX6_ahead 67 = .ok (.bipush 8, 2) := by decide +kernel
theorem dX6_ahead_69 : decode cX6_ahead 69 = .ok (.iload 4, 2) := by decide +kernel
theorem dX6_ahead_71 : decode cX6_ahead 71 = .ok (.imul, 1) := by decide +kernel
theorem dX6_ahead_72 : decode cX6_ahead 72 = .ok (.iadd, 1) := by decide +kernel
theorem dX6_ahead_73 : decode cX6_ahead 73 = .ok (.iload 5, 2) := by decide +kernel
theorem dX6_ahead_75 : decode cX6_ahead 75 = .ok (.iadd, 1) := by decide +kernel
theorem dX6_ahead_76 : decode cX6_ahead 76 = .ok (.goto 4, 3) := by decide +kernel
theorem dX6_ahead_79 : decode cX6_ahead 79 = .ok (.iconst (-1), 1) := by decide +kernel
theorem dX6_ahead_80 : decode cX6_ahead 80 = .ok (.ireturn, 1) := by decide +kernel
theorem dX6_behind_0 : decode cX6_behind 0 = .ok (.iload_n 2, 1) := by decide +kernel
theorem dX6_behind_1 : decode cX6_behind 1 = .ok (.bipush 64, 2) := by decide +kernel
theorem dX6_behind_3 : decode cX6_behind 3 = .ok (.idiv, 1) := by decide +kernel
theorem dX6_behind_4 : decode cX6_behind 4 = .ok (.aload_n 0, 1) := by decide +kernel
theorem dX6_behind_5 : decode cX6_behind 5 = .ok (.getfield 13, 3) := by decide +kernel
theorem dX6_behind_8 : decode cX6_behind 8 = .ok (.iconst 3, 1) := by decide +kernel
theorem dX6_behind_9 : decode cX6_behind 9 = .ok (.iload_n 1, 1) := by decide +kernel
theorem dX6_behind_10 : decode cX6_behind 10 = .ok (.imul, 1) := by decide +kernel
theorem dX6_behind_11 : decode cX6_behind 11 = .ok (.iaload, 1) := by decide +kernel
theorem dX6_behind_12 : decode cX6_behind 12 = .ok (.iadd, 1) := by decide +kernel
theorem dX6_behind_13 : decode cX6_behind 13 = .ok (.istore_n 3, 1) := by decide +kernel
theorem dX6_behind_14 : decode cX6_behind 14 = .ok (.iload_n 2, 1) := by decide +kernel
theorem dX6_behind_15 : decode cX6_behind 15 = .ok (.bipush 8, 2) := by decide +kernel
theorem dX6_behind_17 : decode cX6_behind 17 = .ok (.idiv, 1) := by decide +kernel
theorem dX6_behind_18 : decode cX6_behind 18 = .ok (.bipush 8, 2) := by decide +kernel
theorem dX6_behind_20 : decode cX6_behind 20 = .ok (.irem, 1) := by decide +kernel
theorem dX6_behind_21 : decode cX6_behind 21 = .ok (.aload_n 0, 1) := by decide +kernel
theorem dX6_behind_22 : decode cX6_behind 22 = .ok (.getfield 13, 3) := by decide +kernel
theorem dX6_behind_25 : decode cX6_behind 25 = .ok (.iconst 3, 1) := by decide +kernel
theorem dX6_behind_26 : decode cX6_behind 26 = .ok (.iload_n 1, 1) := by decide +kernel
theorem dX6_behind_27 : decode cX6_behind 27 = .ok (.imul, 1) := by decide +kernel
theorem dX6_behind_28 : decode cX6_behind 28 = .ok (.iconst 1, 1) := by decide +kernel
theorem dX6_behind_29 : decode cX6_behind 29 = .ok (.iadd, 1) := by decide +kernel
theorem dX6_behind_30 : decode cX6_behind 30 = .ok (.iaload, 1) := by decide +kernel
theorem dX6_behind_31 : decode cX6_behind 31 = .ok (.iadd, 1) := by decide +kernel
theorem dX6_behind_32 : decode cX6_behind 32 = .ok (.istore 4, 2) := by decide +kernel
theorem dX6_behind_34 : decode cX6_behind 34 = .ok (.iload_n 2, 1) := by decide +kernel
theorem dX6_behind_35 : decode cX6_behind 35 = .ok (.bipush 8, 2) := by decide +kernel
theorem dX6_behind_37 : decode cX6_behind 37 = .ok (.irem, 1) := by decide +kernel
theorem dX6_behind_38 : decode cX6_behind 38 = .ok (.aload_n 0, 1) := by decide +kernel
theorem dX6_behind_39 : decode cX6_behind 39 = .ok (.getfield 13, 3) := by decide +kernel
theorem dX6_behind_42 : decode cX6_behind 42 = .ok (.iconst 3, 1) := by decide +kernel
theorem dX6_behind_43 : decode cX6_behind 43 = .ok (.iload_n 1, 1) := by decide +kernel
theorem dX6_behind_44 : decode cX6_behind 44 = .ok (.imul, 1) := by decide +kernel
theorem dX6_behind_45 : decode cX6_behind 45 = .ok (.iconst 2, 1) := by decide +kernel
theorem dX6_behind_46 : decode cX6_behind 46 = .ok (.iadd, 1) := by decide +kernel
theorem dX6_behind_47 : decode cX6_behind 47 = .ok (.iaload, 1) := by decide +kernel
theorem dX6_behind_48 : decode cX6_behind 48 = .ok (.iadd, 1) := by decide +kernel
theorem dX6_behind_49 : decode cX6_behind 49 = .ok (.istore 5, 2) := by decide +kernel
theorem dX6_behind_51 : decode cX6_behind 51 = .ok (.aload_n 0, 1) := by decide +kernel
theorem dX6_behind_52 : decode cX6_behind 52 = .ok (.iload_n 3, 1) := by decide +kernel
theorem dX6_behind_53 : decode cX6_behind 53 = .ok (.iload 4, 2) := by decide +kernel
theorem dX6_behind_55 : decode cX6_behind 55 = .ok (.iload 5, 2) := by decide +kernel
theorem dX6_behind_57 : decode cX6_behind 57 = .ok (.invokevirtual 61, 3) := by decide +kernel
theorem dX6_behind_60 : decode cX6_behind 60 = .ok (.ifCond .eq 19, 3) := by decide +kernel
theorem dX6_behind_63 : decode cX6_behind 63 = .ok (.bipush 64, 2) := by decide +kernel
theorem dX6_behind_65 : decode cX6_behind 65 = .ok (.iload_n 3, 1) := by decide +kernel
theorem dX6_behind_66 : decode cX6_behind 66 = .ok (.imul, 1) := by decide +kernel
theorem dX6_behind_67 : decode cX6_behind 67 = .ok (.bipush 8, 2) := by decide +kernel
theorem dX6_behind_69 : decode cX6_behind 69 = .ok (.iload 4, 2) := by decide +kernel
theorem dX6_behind_71 : decode cX6_behind 71 = .ok (.imul, 1) := by decide +kernel
theorem dX6_behind_72 : decode cX6_behind 72 = .ok (.iadd, 1) := by decide +kernel
theorem dX6_behind_73 : decode cX6_behind 73 = .ok (.iload 5, 2) := by decide +kernel
theorem dX6_behind_75 : decode cX6_behind 75 = .ok (.iadd, 1) := by decide +kernel
theorem dX6_behind_76 : decode cX6_behind 76 = .ok (.goto 4, 3) := by decide +kernel
theorem dX6_behind_79 : decode cX6_behind 79 = .ok (.iconst (-1), 1) := by decide +kernel
theorem dX6_behind_80 : decode cX6_behind 80 = .ok (.ireturn, 1) := by decide +kernel
theorem dX6_isPointNumber_0 : decode cX6_isPointNumber 0 = .ok (.aload_n 0, 1) := by decide +kernel
theorem dX6_isPointNumber_1 : decode cX6_isPointNumber 1 = .ok (.iload_n 1, 1) := by decide +kernel
theorem dX6_isPointNumber_2 : decode cX6_isPointNumber 2 = .ok (.bipush 64, 2) := by decide +kernel
theorem dX6_isPointNumber_4 : decode cX6_isPointNumber 4 = .ok (.idiv, 1) := by decide +kernel
theorem dX6_isPointNumber_5 : decode cX6_isPointNumber 5 = .ok (.iload_n 1, 1) := by decide +kernel
theorem dX6_isPointNumber_6 : decode cX6_isPointNumber 6 = .ok (.bipush 8, 2) := by decide +kernel
theorem dX6_isPointNumber_8 : decode cX6_isPointNumber 8 = .ok (.idiv, 1) := by decide +kernel
theorem dX6_isPointNumber_9 : decode cX6_isPointNumber 9 = .ok (.bipush 8, 2) := by decide +kernel
theorem dX6_isPointNumber_11 : decode cX6_isPointNumber 11 = .ok (.irem, 1) := by decide +kernel
theorem dX6_isPointNumber_12 : decode cX6_isPointNumber 12 = .ok (.iload_n 1, 1) := by decide +kernel
theorem dX6_isPointNumber_13 : decode cX6_isPointNumber 13 = .ok (.bipush 8, 2) := by decide +kernel
theorem dX6_isPointNumber_15 : decode cX6_isPointNumber 15 = .ok (.irem, 1) := by decide +kernel
theorem dX6_isPointNumber_16 : decode cX6_isPointNumber 16 = .ok (.invokevirtual 61, 3) := by decide +kernel
theorem dX6_isPointNumber_19 : decode cX6_isPointNumber 19 = .ok (.ireturn, 1) := by decide +kernel
theorem dX6_points_0 : decode cX6_points 0 = .ok (.aload_n 0, 1) := by decide +kernel
theorem dX6_points_1 : decode cX6_points 1 = .ok (.getfield 7, 3) := by decide +kernel
theorem dX6_points_4 : decode cX6_points 4 = .ok (.iconst 0, 1) := by decide +kernel
theorem dX6_points_5 : decode cX6_points 5 = .ok (.iaload, 1) := by decide +kernel
theorem dX6_points_6 : decode cX6_points 6 = .ok (.aload_n 0, 1) := by decide +kernel
theorem dX6_points_7 : decode cX6_points 7 = .ok (.getfield 7, 3) := by decide +kernel
theorem dX6_points_10 : decode cX6_points 10 = .ok (.iconst 1, 1) := by decide +kernel
theorem dX6_points_11 : decode cX6_points 11 = .ok (.iaload, 1) := by decide +kernel
theorem dX6_points_12 : decode cX6_points 12 = .ok (.imul, 1) := by decide +kernel
theorem dX6_points_13 : decode cX6_points 13 = .ok (.aload_n 0, 1) := by decide +kernel
theorem dX6_points_14 : decode cX6_points 14 = .ok (.getfield 7, 3) := by decide +kernel
theorem dX6_points_17 : decode cX6_points 17 = .ok (.iconst 2, 1) := by decide +kernel
theorem dX6_points_18 : decode cX6_points 18 = .ok (.iaload, 1) := by decide +kernel
theorem dX6_points_19 : decode cX6_points 19 = .ok (.imul, 1) := by decide +kernel
theorem dX6_points_20 : decode cX6_points 20 = .ok (.ireturn, 1) := by decide +kernel
theorem dX6_sizes_0 : decode cX6_sizes 0 = .ok (.iload_n 1, 1) := by decide +kernel
theorem dX6_sizes_1 : decode cX6_sizes 1 = .ok (.iconst 1, 1) := by decide +kernel
theorem dX6_sizes_2 : decode cX6_sizes 2 = .ok (.bipush 8, 2) := by decide +kernel
theorem dX6_sizes_4 : decode cX6_sizes 4 = .ok (.invokestatic 54, 3) := by decide +kernel
theorem dX6_sizes_7 : decode cX6_sizes 7 = .ok (.ifCond .eq 23, 3) := by decide +kernel
theorem dX6_sizes_10 : decode cX6_sizes 10 = .ok (.iload_n 2, 1) := by decide +kernel
theorem dX6_sizes_11 : decode cX6_sizes 11 = .ok (.iconst 1, 1) := by decide +kernel
theorem dX6_sizes_12 : decode cX6_sizes 12 = .ok (.bipush 8, 2) := by decide +kernel
theorem dX6_sizes_14 : decode cX6_sizes 14 = .ok (.invokestatic 54, 3) := by decide +kernel
theorem dX6_sizes_17 : decode cX6_sizes 17 = .ok (.ifCond .eq 13, 3) := by decide +kernel
theorem dX6_sizes_20 : decode cX6_sizes 20 = .ok (.iload_n 3, 1) := by decide +kernel
theorem dX6_sizes_21 : decode cX6_sizes 21 = .ok (.iconst 1, 1) := by decide +kernel
theorem dX6_sizes_22 : decode cX6_sizes 22 = .ok (.bipush 8, 2) := by decide +kernel
theorem dX6_sizes_24 : decode cX6_sizes 24 = .ok (.invokestatic 54, 3) := by decide +kernel
theorem dX6_sizes_27 : decode cX6_sizes 27 = .ok (.ifCond .ne 5, 3) := by decide +kernel
theorem dX6_sizes_30 : decode cX6_sizes 30 = .ok (.iconst 0, 1) := by decide +kernel
theorem dX6_sizes_31 : decode cX6_sizes 31 = .ok (.ireturn, 1) := by decide +kernel
theorem dX6_sizes_32 : decode cX6_sizes 32 = .ok (.aload_n 0, 1) := by decide +kernel
theorem dX6_sizes_33 : decode cX6_sizes 33 = .ok (.getfield 7, 3) := by decide +kernel
theorem dX6_sizes_36 : decode cX6_sizes 36 = .ok (.iconst 0, 1) := by decide +kernel
theorem dX6_sizes_37 : decode cX6_sizes 37 = .ok (.iload_n 1, 1) := by decide +kernel
theorem dX6_sizes_38 : decode cX6_sizes 38 = .ok (.iastore, 1) := by decide +kernel
theorem dX6_sizes_39 : decode cX6_sizes 39 = .ok (.aload_n 0, 1) := by decide +kernel
theorem dX6_sizes_40 : decode cX6_sizes 40 = .ok (.getfield 7, 3) := by decide +kernel
theorem dX6_sizes_43 : decode cX6_sizes 43 = .ok (.iconst 1, 1) := by decide +kernel
theorem dX6_sizes_44 : decode cX6_sizes 44 = .ok (.iload_n 2, 1) := by decide +kernel
theorem dX6_sizes_45 : decode cX6_sizes 45 = .ok (.iastore, 1) := by decide +kernel
theorem dX6_sizes_46 : decode cX6_sizes 46 = .ok (.aload_n 0, 1) := by decide +kernel
theorem dX6_sizes_47 : decode cX6_sizes 47 = .ok (.getfield 7, 3) := by decide +kernel
theorem dX6_sizes_50 : decode cX6_sizes 50 = .ok (.iconst 2, 1) := by decide +kernel
theorem dX6_sizes_51 : decode cX6_sizes 51 = .ok (.iload_n 3, 1) := by decide +kernel
theorem dX6_sizes_52 : decode cX6_sizes 52 = .ok (.iastore, 1) := by decide +kernel
theorem dX6_sizes_53 : decode cX6_sizes 53 = .ok (.aload_n 0, 1) := by decide +kernel
theorem dX6_sizes_54 : decode cX6_sizes 54 = .ok (.invokevirtual 64, 3) := by decide +kernel
theorem dX6_sizes_57 : decode cX6_sizes 57 = .ok (.aload_n 0, 1) := by decide +kernel
theorem dX6_sizes_58 : decode cX6_sizes 58 = .ok (.iconst 0, 1) := by decide +kernel
theorem dX6_sizes_59 : decode cX6_sizes 59 = .ok (.putfield 67, 3) := by decide +kernel
theorem dX6_sizes_62 : decode cX6_sizes 62 = .ok (.iconst 1, 1) := by decide +kernel
theorem dX6_sizes_63 : decode cX6_sizes 63 = .ok (.ireturn, 1) := by decide +kernel
theorem dX6_noEdges_0 : decode cX6_noEdges 0 = .ok (.iconst 0, 1) := by decide +kernel
theorem dX6_noEdges_1 : decode cX6_noEdges 1 = .ok (.istore_n 1, 1) := by decide +kernel
theorem dX6_noEdges_2 : decode cX6_noEdges 2 = .ok (.iload_n 1, 1) := by decide +kernel
theorem dX6_noEdges_3 : decode cX6_noEdges 3 = .ok (.sipush 2048, 3) := by decide +kernel
theorem dX6_noEdges_6 : decode cX6_noEdges 6 = .ok (.if_icmp .ge 16, 3) := by decide +kernel
theorem dX6_noEdges_9 : decode cX6_noEdges 9 = .ok (.aload_n 0, 1) := by decide +kernel
theorem dX6_noEdges_10 : decode cX6_noEdges 10 = .ok (.getfield 25, 3) := by decide +kernel
theorem dX6_noEdges_13 : decode cX6_noEdges 13 = .ok (.iload_n 1, 1) := by decide +kernel
theorem dX6_noEdges_14 : decode cX6_noEdges 14 = .ok (.iconst 0, 1) := by decide +kernel
theorem dX6_noEdges_15 : decode cX6_noEdges 15 = .ok (.iastore, 1) := by decide +kernel
theorem dX6_noEdges_16 : decode cX6_noEdges 16 = .ok (.iinc 1 1, 3) := by decide +kernel
theorem dX6_noEdges_19 : decode cX6_noEdges 19 = .ok (.goto (-17), 3) := by decide +kernel
theorem dX6_noEdges_22 : decode cX6_noEdges 22 = .ok (.return_, 1) := by decide +kernel
theorem dX6_variable_0 : decode cX6_variable 0 = .ok (.iload_n 1, 1) := by decide +kernel
theorem dX6_variable_1 : decode cX6_variable 1 = .ok (.ifCond .eq 7, 3) := by decide +kernel
theorem dX6_variable_4 : decode cX6_variable 4 = .ok (.iload_n 1, 1) := by decide +kernel
theorem dX6_variable_5 : decode cX6_variable 5 = .ok (.goto 12, 3) := by decide +kernel
theorem dX6_variable_8 : decode cX6_variable 8 = .ok (.iload_n 2, 1) := by decide +kernel
theorem dX6_variable_9 : decode cX6_variable 9 = .ok (.ifCond .eq 7, 3) := by decide +kernel
theorem dX6_variable_12 : decode cX6_variable 12 = .ok (.iload_n 2, 1) := by decide +kernel
theorem dX6_variable_13 : decode cX6_variable 13 = .ok (.goto 4, 3) := by decide +kernel
theorem dX6_variable_16 : decode cX6_variable 16 = .ok (.iload_n 3, 1) := by decide +kernel
theorem dX6_variable_17 : decode cX6_variable 17 = .ok (.istore 4, 2) := by decide +kernel
theorem dX6_variable_19 : decode cX6_variable 19 = .ok (.iload_n 1, 1) := by decide +kernel
theorem dX6_variable_20 : decode cX6_variable 20 = .ok (.bipush (-2), 2) := by decide +kernel
theorem dX6_variable_22 : decode cX6_variable 22 = .ok (.iconst 2, 1) := by decide +kernel
theorem dX6_variable_23 : decode cX6_variable 23 = .ok (.invokestatic 54, 3) := by decide +kernel
theorem dX6_variable_26 : decode cX6_variable 26 = .ok (.ifCond .eq 36, 3) := by decide +kernel
theorem dX6_variable_29 : decode cX6_variable 29 = .ok (.iload_n 2, 1) := by decide +kernel
theorem dX6_variable_30 : decode cX6_variable 30 = .ok (.bipush (-2), 2) := by decide +kernel
theorem dX6_variable_32 : decode cX6_variable 32 = .ok (.iconst 2, 1) := by decide +kernel
theorem dX6_variable_33 : decode cX6_variable 33 = .ok (.invokestatic 54, 3) := by decide +kernel
theorem dX6_variable_36 : decode cX6_variable 36 = .ok (.ifCond .eq 26, 3) := by decide +kernel
theorem dX6_variable_39 : decode cX6_variable 39 = .ok (.iload_n 3, 1) := by decide +kernel
theorem dX6_variable_40 : decode cX6_variable 40 = .ok (.bipush (-2), 2) := by decide +kernel
theorem dX6_variable_42 : decode cX6_variable 42 = .ok (.iconst 2, 1) := by decide +kernel
theorem dX6_variable_43 : decode cX6_variable 43 = .ok (.invokestatic 54, 3) := by decide +kernel
theorem dX6_variable_46 : decode cX6_variable 46 = .ok (.ifCond .eq 16, 3) := by decide +kernel
theorem dX6_variable_49 : decode cX6_variable 49 = .ok (.iload 4, 2) := by decide +kernel
theorem dX6_variable_51 : decode cX6_variable 51 = .ok (.ifCond .le 11, 3) := by decide +kernel
theorem dX6_variable_54 : decode cX6_variable 54 = .ok (.aload_n 0, 1) := by decide +kernel
theorem dX6_variable_55 : decode cX6_variable 55 = .ok (.getfield 58, 3) := by decide +kernel
theorem dX6_variable_58 : decode cX6_variable 58 = .ok (.iconst 4, 1) := by decide +kernel
theorem dX6_variable_59 : decode cX6_variable 59 = .ok (.if_icmp .ne 5, 3) := by decide +kernel
theorem dX6_variable_62 : decode cX6_variable 62 = .ok (.iconst (-1), 1) := by decide +kernel
theorem dX6_variable_63 : decode cX6_variable 63 = .ok (.ireturn, 1) := by decide +kernel
theorem dX6_variable_64 : decode cX6_variable 64 = .ok (.aload_n 0, 1) := by decide +kernel
theorem dX6_variable_65 : decode cX6_variable 65 = .ok (.getfield 58, 3) := by decide +kernel
theorem dX6_variable_68 : decode cX6_variable 68 = .ok (.istore 5, 2) := by decide +kernel
theorem dX6_variable_70 : decode cX6_variable 70 = .ok (.aload_n 0, 1) := by decide +kernel
theorem dX6_variable_71 : decode cX6_variable 71 = .ok (.getfield 13, 3) := by decide +kernel
theorem dX6_variable_74 : decode cX6_variable 74 = .ok (.iconst 3, 1) := by decide +kernel
theorem dX6_variable_75 : decode cX6_variable 75 = .ok (.iload 5, 2) := by decide +kernel
theorem dX6_variable_77 : decode cX6_variable 77 = .ok (.imul, 1) := by decide +kernel
theorem dX6_variable_78 : decode cX6_variable 78 = .ok (.iload_n 1, 1) := by decide +kernel
theorem dX6_variable_79 : decode cX6_variable 79 = .ok (.iastore, 1) := by decide +kernel
theorem dX6_variable_80 : decode cX6_variable 80 = .ok (.aload_n 0, 1) := by decide +kernel
theorem dX6_variable_81 : decode cX6_variable 81 = .ok (.getfield 13, 3) := by decide +kernel
theorem dX6_variable_84 : decode cX6_variable 84 = .ok (.iconst 3, 1) := by decide +kernel
theorem dX6_variable_85 : decode cX6_variable 85 = .ok (.iload 5, 2) := by decide +kernel
theorem dX6_variable_87 : decode cX6_variable 87 = .ok (.imul, 1) := by decide +kernel
theorem dX6_variable_88 : decode cX6_variable 88 = .ok (.iconst 1, 1) := by decide +kernel
theorem dX6_variable_89 : decode cX6_variable 89 = .ok (.iadd, 1) := by decide +kernel
theorem dX6_variable_90 : decode cX6_variable 90 = .ok (.iload_n 2, 1) := by decide +kernel
theorem dX6_variable_91 : decode cX6_variable 91 = .ok (.iastore, 1) := by decide +kernel
theorem dX6_variable_92 : decode cX6_variable 92 = .ok (.aload_n 0, 1) := by decide +kernel
theorem dX6_variable_93 : decode cX6_variable 93 = .ok (.getfield 13, 3) := by decide +kernel
theorem dX6_variable_96 : decode cX6_variable 96 = .ok (.iconst 3, 1) := by decide +kernel
theorem dX6_variable_97 : decode cX6_variable 97 = .ok (.iload 5, 2) := by decide +kernel
theorem dX6_variable_99 : decode cX6_variable 99 = .ok (.imul, 1) := by decide +kernel
theorem dX6_variable_100 : decode cX6_variable 100 = .ok (.iconst 2, 1) := by decide +kernel
theorem dX6_variable_101 : decode cX6_variable 101 = .ok (.iadd, 1) := by decide +kernel
theorem dX6_variable_102 : decode cX6_variable 102 = .ok (.iload_n 3, 1) := by decide +kernel
theorem dX6_variable_103 : decode cX6_variable 103 = .ok (.iastore, 1) := by decide +kernel
theorem dX6_variable_104 : decode cX6_variable 104 = .ok (.aload_n 0, 1) := by decide +kernel
theorem dX6_variable_105 : decode cX6_variable 105 = .ok (.getfield 16, 3) := by decide +kernel
theorem dX6_variable_108 : decode cX6_variable 108 = .ok (.iload 5, 2) := by decide +kernel
theorem dX6_variable_110 : decode cX6_variable 110 = .ok (.iconst 0, 1) := by decide +kernel
theorem dX6_variable_111 : decode cX6_variable 111 = .ok (.iastore, 1) := by decide +kernel
theorem dX6_variable_112 : decode cX6_variable 112 = .ok (.aload_n 0, 1) := by decide +kernel
theorem dX6_variable_113 : decode cX6_variable 113 = .ok (.getfield 19, 3) := by decide +kernel
theorem dX6_variable_116 : decode cX6_variable 116 = .ok (.iload 5, 2) := by decide +kernel
theorem dX6_variable_118 : decode cX6_variable 118 = .ok (.iconst 0, 1) := by decide +kernel
theorem dX6_variable_119 : decode cX6_variable 119 = .ok (.iastore, 1) := by decide +kernel
theorem dX6_variable_120 : decode cX6_variable 120 = .ok (.aload_n 0, 1) := by decide +kernel
theorem dX6_variable_121 : decode cX6_variable 121 = .ok (.getfield 22, 3) := by decide +kernel
theorem dX6_variable_124 : decode cX6_variable 124 = .ok (.iload 5, 2) := by decide +kernel
theorem dX6_variable_126 : decode cX6_variable 126 = .ok (.iconst 0, 1) := by decide +kernel
theorem dX6_variable_127 : decode cX6_variable 127 = .ok (.iastore, 1) := by decide +kernel
theorem dX6_variable_128 : decode cX6_variable 128 = .ok (.aload_n 0, 1) := by decide +kernel
theorem dX6_variable_129 : decode cX6_variable 129 = .ok (.dup, 1) := by decide +kernel
theorem dX6_variable_130 : decode cX6_variable 130 = .ok (.getfield 58, 3) := by decide +kernel
theorem dX6_variable_133 : decode cX6_variable 133 = .ok (.iconst 1, 1) := by decide +kernel
theorem dX6_variable_134 : decode cX6_variable 134 = .ok (.iadd, 1) := by decide +kernel
theorem dX6_variable_135 : decode cX6_variable 135 = .ok (.putfield 58, 3) := by decide +kernel
theorem dX6_variable_138 : decode cX6_variable 138 = .ok (.aload_n 0, 1) := by decide +kernel
theorem dX6_variable_139 : decode cX6_variable 139 = .ok (.iconst 0, 1) := by decide +kernel
theorem dX6_variable_140 : decode cX6_variable 140 = .ok (.putfield 67, 3) := by decide +kernel
theorem dX6_variable_143 : decode cX6_variable 143 = .ok (.iload 5, 2) := by decide +kernel
theorem dX6_variable_145 : decode cX6_variable 145 = .ok (.ireturn, 1) := by decide +kernel
theorem dX6_act_0 : decode cX6_act 0 = .ok (.aload_n 0, 1) := by decide +kernel
theorem dX6_act_1 : decode cX6_act 1 = .ok (.iload_n 1, 1) := by decide +kernel
theorem dX6_act_2 : decode cX6_act 2 = .ok (.invokevirtual 71, 3) := by decide +kernel
theorem dX6_act_5 : decode cX6_act 5 = .ok (.ifCond .eq 30, 3) := by decide +kernel
theorem dX6_act_8 : decode cX6_act 8 = .ok (.iload_n 2, 1) := by decide +kernel
theorem dX6_act_9 : decode cX6_act 9 = .ok (.iconst 0, 1) := by decide +kernel
theorem dX6_act_10 : decode cX6_act 10 = .ok (.bipush 7, 2) := by decide +kernel
theorem dX6_act_12 : decode cX6_act 12 = .ok (.invokestatic 54, 3) := by decide +kernel
theorem dX6_act_15 : decode cX6_act 15 = .ok (.ifCond .eq 20, 3) := by decide +kernel
theorem dX6_act_18 : decode cX6_act 18 = .ok (.aload_n 0, 1) := by decide +kernel
theorem dX6_act_19 : decode cX6_act 19 = .ok (.iload_n 3, 1) := by decide +kernel
theorem dX6_act_20 : decode cX6_act 20 = .ok (.invokevirtual 71, 3) := by decide +kernel
theorem dX6_act_23 : decode cX6_act 23 = .ok (.ifCond .eq 12, 3) := by decide +kernel
theorem dX6_act_26 : decode cX6_act 26 = .ok (.aload_n 0, 1) := by decide +kernel
theorem dX6_act_27 : decode cX6_act 27 = .ok (.iload 4, 2) := by decide +kernel
theorem dX6_act_29 : decode cX6_act 29 = .ok (.invokevirtual 71, 3) := by decide +kernel
theorem dX6_act_32 : decode cX6_act 32 = .ok (.ifCond .ne 5, 3) := by decide +kernel
theorem dX6_act_35 : decode cX6_act 35 = .ok (.iconst 0, 1) := by decide +kernel
theorem dX6_act_36 : decode cX6_act 36 = .ok (.ireturn, 1) := by decide +kernel
theorem dX6_act_37 : decode cX6_act 37 = .ok (.aload_n 0, 1) := by decide +kernel
theorem dX6_act_38 : decode cX6_act 38 = .ok (.getfield 16, 3) := by decide +kernel
theorem dX6_act_41 : decode cX6_act 41 = .ok (.iload_n 1, 1) := by decide +kernel
theorem dX6_act_42 : decode cX6_act 42 = .ok (.iload_n 2, 1) := by decide +kernel
theorem dX6_act_43 : decode cX6_act 43 = .ok (.iastore, 1) := by decide +kernel
theorem dX6_act_44 : decode cX6_act 44 = .ok (.aload_n 0, 1) := by decide +kernel
theorem dX6_act_45 : decode cX6_act 45 = .ok (.getfield 19, 3) := by decide +kernel
theorem dX6_act_48 : decode cX6_act 48 = .ok (.iload_n 1, 1) := by decide +kernel
theorem dX6_act_49 : decode cX6_act 49 = .ok (.iload_n 3, 1) := by decide +kernel
theorem dX6_act_50 : decode cX6_act 50 = .ok (.iastore, 1) := by decide +kernel
theorem dX6_act_51 : decode cX6_act 51 = .ok (.aload_n 0, 1) := by decide +kernel
theorem dX6_act_52 : decode cX6_act 52 = .ok (.getfield 22, 3) := by decide +kernel
theorem dX6_act_55 : decode cX6_act 55 = .ok (.iload_n 1, 1) := by decide +kernel
theorem dX6_act_56 : decode cX6_act 56 = .ok (.iload 4, 2) := by decide +kernel
theorem dX6_act_58 : decode cX6_act 58 = .ok (.iastore, 1) := by decide +kernel
theorem dX6_act_59 : decode cX6_act 59 = .ok (.aload_n 0, 1) := by decide +kernel
theorem dX6_act_60 : decode cX6_act 60 = .ok (.iconst 0, 1) := by decide +kernel
theorem dX6_act_61 : decode cX6_act 61 = .ok (.putfield 67, 3) := by decide +kernel
theorem dX6_act_64 : decode cX6_act 64 = .ok (.iconst 1, 1) := by decide +kernel
theorem dX6_act_65 : decode cX6_act 65 = .ok (.ireturn, 1) := by decide +kernel
theorem dX6_edge_0 : decode cX6_edge 0 = .ok (.aload_n 0, 1) := by decide +kernel
theorem dX6_edge_1 : decode cX6_edge 1 = .ok (.iload_n 1, 1) := by decide +kernel
theorem dX6_edge_2 : decode cX6_edge 2 = .ok (.invokevirtual 71, 3) := by decide +kernel
theorem dX6_edge_5 : decode cX6_edge 5 = .ok (.ifCond .eq 14, 3) := by decide +kernel
theorem dX6_edge_8 : decode cX6_edge 8 = .ok (.aload_n 0, 1) := by decide +kernel
theorem dX6_edge_9 : decode cX6_edge 9 = .ok (.iload_n 2, 1) := by decide +kernel
theorem dX6_edge_10 : decode cX6_edge 10 = .ok (.iload_n 3, 1) := by decide +kernel
theorem dX6_edge_11 : decode cX6_edge 11 = .ok (.iload 4, 2) := by decide +kernel
theorem dX6_edge_13 : decode cX6_edge 13 = .ok (.invokevirtual 61, 3) := by decide +kernel
theorem dX6_edge_16 : decode cX6_edge 16 = .ok (.ifCond .ne 5, 3) := by decide +kernel
theorem dX6_edge_19 : decode cX6_edge 19 = .ok (.iconst 0, 1) := by decide +kernel
theorem dX6_edge_20 : decode cX6_edge 20 = .ok (.ireturn, 1) := by decide +kernel
theorem dX6_edge_21 : decode cX6_edge 21 = .ok (.aload_n 0, 1) := by decide +kernel
theorem dX6_edge_22 : decode cX6_edge 22 = .ok (.getfield 25, 3) := by decide +kernel
theorem dX6_edge_25 : decode cX6_edge 25 = .ok (.sipush 512, 3) := by decide +kernel
theorem dX6_edge_28 : decode cX6_edge 28 = .ok (.iload_n 1, 1) := by decide +kernel
theorem dX6_edge_29 : decode cX6_edge 29 = .ok (.imul, 1) := by decide +kernel
theorem dX6_edge_30 : decode cX6_edge 30 = .ok (.bipush 64, 2) := by decide +kernel
theorem dX6_edge_32 : decode cX6_edge 32 = .ok (.iload_n 2, 1) := by decide +kernel
theorem dX6_edge_33 : decode cX6_edge 33 = .ok (.imul, 1) := by decide +kernel
theorem dX6_edge_34 : decode cX6_edge 34 = .ok (.iadd, 1) := by decide +kernel
theorem dX6_edge_35 : decode cX6_edge 35 = .ok (.bipush 8, 2) := by decide +kernel
theorem dX6_edge_37 : decode cX6_edge 37 = .ok (.iload_n 3, 1) := by decide +kernel
theorem dX6_edge_38 : decode cX6_edge 38 = .ok (.imul, 1) := by decide +kernel
theorem dX6_edge_39 : decode cX6_edge 39 = .ok (.iadd, 1) := by decide +kernel
theorem dX6_edge_40 : decode cX6_edge 40 = .ok (.iload 4, 2) := by decide +kernel
theorem dX6_edge_42 : decode cX6_edge 42 = .ok (.iadd, 1) := by decide +kernel
theorem dX6_edge_43 : decode cX6_edge 43 = .ok (.iload 5, 2) := by decide +kernel
theorem dX6_edge_45 : decode cX6_edge 45 = .ok (.iastore, 1) := by decide +kernel
theorem dX6_edge_46 : decode cX6_edge 46 = .ok (.aload_n 0, 1) := by decide +kernel
theorem dX6_edge_47 : decode cX6_edge 47 = .ok (.iconst 0, 1) := by decide +kernel
theorem dX6_edge_48 : decode cX6_edge 48 = .ok (.putfield 67, 3) := by decide +kernel
theorem dX6_edge_51 : decode cX6_edge 51 = .ok (.iconst 1, 1) := by decide +kernel
theorem dX6_edge_52 : decode cX6_edge 52 = .ok (.ireturn, 1) := by decide +kernel
theorem dX6_clear_0 : decode cX6_clear 0 = .ok (.aload_n 0, 1) := by decide +kernel
theorem dX6_clear_1 : decode cX6_clear 1 = .ok (.iconst 0, 1) := by decide +kernel
theorem dX6_clear_2 : decode cX6_clear 2 = .ok (.putfield 58, 3) := by decide +kernel
theorem dX6_clear_5 : decode cX6_clear 5 = .ok (.aload_n 0, 1) := by decide +kernel
theorem dX6_clear_6 : decode cX6_clear 6 = .ok (.invokevirtual 64, 3) := by decide +kernel
theorem dX6_clear_9 : decode cX6_clear 9 = .ok (.aload_n 0, 1) := by decide +kernel
theorem dX6_clear_10 : decode cX6_clear 10 = .ok (.iconst 0, 1) := by decide +kernel
theorem dX6_clear_11 : decode cX6_clear 11 = .ok (.putfield 67, 3) := by decide +kernel
theorem dX6_clear_14 : decode cX6_clear 14 = .ok (.return_, 1) := by decide +kernel
theorem dX6_lay_0 : decode cX6_lay 0 = .ok (.iload_n 2, 1) := by decide +kernel
theorem dX6_lay_1 : decode cX6_lay 1 = .ok (.ifCond .ne 16, 3) := by decide +kernel
theorem dX6_lay_4 : decode cX6_lay 4 = .ok (.iload_n 3, 1) := by decide +kernel
theorem dX6_lay_5 : decode cX6_lay 5 = .ok (.ifCond .ne 12, 3) := by decide +kernel
theorem dX6_lay_8 : decode cX6_lay 8 = .ok (.iload 4, 2) := by decide +kernel
theorem dX6_lay_10 : decode cX6_lay 10 = .ok (.ifCond .ne 7, 3) := by decide +kernel
theorem dX6_lay_13 : decode cX6_lay 13 = .ok (.iconst 1, 1) := by decide +kernel
theorem dX6_lay_14 : decode cX6_lay 14 = .ok (.goto 4, 3) := by decide +kernel
theorem dX6_lay_17 : decode cX6_lay 17 = .ok (.iconst 0, 1) := by decide +kernel
theorem dX6_lay_18 : decode cX6_lay 18 = .ok (.istore 5, 2) := by decide +kernel
theorem dX6_lay_20 : decode cX6_lay 20 = .ok (.iload_n 1, 1) := by decide +kernel
theorem dX6_lay_21 : decode cX6_lay 21 = .ok (.iconst 0, 1) := by decide +kernel
theorem dX6_lay_22 : decode cX6_lay 22 = .ok (.iconst 2, 1) := by decide +kernel
theorem dX6_lay_23 : decode cX6_lay 23 = .ok (.invokestatic 54, 3) := by decide +kernel
theorem dX6_lay_26 : decode cX6_lay 26 = .ok (.ifCond .eq 44, 3) := by decide +kernel
theorem dX6_lay_29 : decode cX6_lay 29 = .ok (.iload_n 2, 1) := by decide +kernel
theorem dX6_lay_30 : decode cX6_lay 30 = .ok (.bipush (-3), 2) := by decide +kernel
theorem dX6_lay_32 : decode cX6_lay 32 = .ok (.iconst 3, 1) := by decide +kernel
theorem dX6_lay_33 : decode cX6_lay 33 = .ok (.invokestatic 54, 3) := by decide +kernel
theorem dX6_lay_36 : decode cX6_lay 36 = .ok (.ifCond .eq 34, 3) := by decide +kernel
theorem dX6_lay_39 : decode cX6_lay 39 = .ok (.iload_n 3, 1) := by decide +kernel
theorem dX6_lay_40 : decode cX6_lay 40 = .ok (.bipush (-3), 2) := by decide +kernel
theorem dX6_lay_42 : decode cX6_lay 42 = .ok (.iconst 3, 1) := by decide +kernel
theorem dX6_lay_43 : decode cX6_lay 43 = .ok (.invokestatic 54, 3) := by decide +kernel
theorem dX6_lay_46 : decode cX6_lay 46 = .ok (.ifCond .eq 24, 3) := by decide +kernel
theorem dX6_lay_49 : decode cX6_lay 49 = .ok (.iload 4, 2) := by decide +kernel
theorem dX6_lay_51 : decode cX6_lay 51 = .ok (.bipush (-3), 2) := by decide +kernel
theorem dX6_lay_53 : decode cX6_lay 53 = .ok (.iconst 3, 1) := by decide +kernel
theorem dX6_lay_54 : decode cX6_lay 54 = .ok (.invokestatic 54, 3) := by decide +kernel
theorem dX6_lay_57 : decode cX6_lay 57 = .ok (.ifCond .eq 13, 3) := by decide +kernel
theorem dX6_lay_60 : decode cX6_lay 60 = .ok (.iload_n 1, 1) := by decide +kernel
theorem dX6_lay_61 : decode cX6_lay 61 = .ok (.iconst 1, 1) := by decide +kernel
theorem dX6_lay_62 : decode cX6_lay 62 = .ok (.if_icmp .ne 10, 3) := by decide +kernel
theorem dX6_lay_65 : decode cX6_lay 65 = .ok (.iload 5, 2) := by decide +kernel
theorem dX6_lay_67 : decode cX6_lay 67 = .ok (.ifCond .eq 5, 3) := by decide +kernel
theorem dX6_lay_70 : decode cX6_lay 70 = .ok (.iconst 0, 1) := by decide +kernel
theorem dX6_lay_71 : decode cX6_lay 71 = .ok (.ireturn, 1) := by decide +kernel
theorem dX6_lay_72 : decode cX6_lay 72 = .ok (.aload_n 0, 1) := by decide +kernel
theorem dX6_lay_73 : decode cX6_lay 73 = .ok (.getfield 28, 3) := by decide +kernel
theorem dX6_lay_76 : decode cX6_lay 76 = .ok (.iconst 3, 1) := by decide +kernel
theorem dX6_lay_77 : decode cX6_lay 77 = .ok (.iload_n 1, 1) := by decide +kernel
theorem dX6_lay_78 : decode cX6_lay 78 = .ok (.imul, 1) := by decide +kernel
theorem dX6_lay_79 : decode cX6_lay 79 = .ok (.iload_n 2, 1) := by decide +kernel
theorem dX6_lay_80 : decode cX6_lay 80 = .ok (.iastore, 1) := by decide +kernel
theorem dX6_lay_81 : decode cX6_lay 81 = .ok (.aload_n 0, 1) := by decide +kernel
theorem dX6_lay_82 : decode cX6_lay 82 = .ok (.getfield 28, 3) := by decide +kernel
theorem dX6_lay_85 : decode cX6_lay 85 = .ok (.iconst 3, 1) := by decide +kernel
theorem dX6_lay_86 : decode cX6_lay 86 = .ok (.iload_n 1, 1) := by decide +kernel
theorem dX6_lay_87 : decode cX6_lay 87 = .ok (.imul, 1) := by decide +kernel
theorem dX6_lay_88 : decode cX6_lay 88 = .ok (.iconst 1, 1) := by decide +kernel
theorem dX6_lay_89 : decode cX6_lay 89 = .ok (.iadd, 1) := by decide +kernel
theorem dX6_lay_90 : decode cX6_lay 90 = .ok (.iload_n 3, 1) := by decide +kernel
theorem dX6_lay_91 : decode cX6_lay 91 = .ok (.iastore, 1) := by decide +kernel
theorem dX6_lay_92 : decode cX6_lay 92 = .ok (.aload_n 0, 1) := by decide +kernel
theorem dX6_lay_93 : decode cX6_lay 93 = .ok (.getfield 28, 3) := by decide +kernel
theorem dX6_lay_96 : decode cX6_lay 96 = .ok (.iconst 3, 1) := by decide +kernel
theorem dX6_lay_97 : decode cX6_lay 97 = .ok (.iload_n 1, 1) := by decide +kernel
theorem dX6_lay_98 : decode cX6_lay 98 = .ok (.imul, 1) := by decide +kernel
theorem dX6_lay_99 : decode cX6_lay 99 = .ok (.iconst 2, 1) := by decide +kernel
theorem dX6_lay_100 : decode cX6_lay 100 = .ok (.iadd, 1) := by decide +kernel
theorem dX6_lay_101 : decode cX6_lay 101 = .ok (.iload 4, 2) := by decide +kernel
theorem dX6_lay_103 : decode cX6_lay 103 = .ok (.iastore, 1) := by decide +kernel
theorem dX6_lay_104 : decode cX6_lay 104 = .ok (.aload_n 0, 1) := by decide +kernel
theorem dX6_lay_105 : decode cX6_lay 105 = .ok (.iconst 0, 1) := by decide +kernel
theorem dX6_lay_106 : decode cX6_lay 106 = .ok (.putfield 67, 3) := by decide +kernel
theorem dX6_lay_109 : decode cX6_lay 109 = .ok (.iconst 1, 1) := by decide +kernel
theorem dX6_lay_110 : decode cX6_lay 110 = .ok (.ireturn, 1) := by decide +kernel
theorem dX6_fold_0 : decode cX6_fold 0 = .ok (.iload_n 1, 1) := by decide +kernel
theorem dX6_fold_1 : decode cX6_fold 1 = .ok (.iconst 1, 1) := by decide +kernel
theorem dX6_fold_2 : decode cX6_fold 2 = .ok (.bipush 8, 2) := by decide +kernel
theorem dX6_fold_4 : decode cX6_fold 4 = .ok (.invokestatic 54, 3) := by decide +kernel
theorem dX6_fold_7 : decode cX6_fold 7 = .ok (.ifCond .ne 5, 3) := by decide +kernel
theorem dX6_fold_10 : decode cX6_fold 10 = .ok (.iconst 0, 1) := by decide +kernel
theorem dX6_fold_11 : decode cX6_fold 11 = .ok (.ireturn, 1) := by decide +kernel
theorem dX6_fold_12 : decode cX6_fold 12 = .ok (.aload_n 0, 1) := by decide +kernel
theorem dX6_fold_13 : decode cX6_fold 13 = .ok (.iload_n 1, 1) := by decide +kernel
theorem dX6_fold_14 : decode cX6_fold 14 = .ok (.putfield 31, 3) := by decide +kernel
theorem dX6_fold_17 : decode cX6_fold 17 = .ok (.aload_n 0, 1) := by decide +kernel
theorem dX6_fold_18 : decode cX6_fold 18 = .ok (.iconst 0, 1) := by decide +kernel
theorem dX6_fold_19 : decode cX6_fold 19 = .ok (.putfield 67, 3) := by decide +kernel
theorem dX6_fold_22 : decode cX6_fold 22 = .ok (.iconst 1, 1) := by decide +kernel
theorem dX6_fold_23 : decode cX6_fold 23 = .ok (.ireturn, 1) := by decide +kernel
theorem dX6_at_0 : decode cX6_at 0 = .ok (.aload_n 0, 1) := by decide +kernel
theorem dX6_at_1 : decode cX6_at 1 = .ok (.getfield 28, 3) := by decide +kernel
theorem dX6_at_4 : decode cX6_at 4 = .ok (.iconst 3, 1) := by decide +kernel
theorem dX6_at_5 : decode cX6_at 5 = .ok (.iload_n 1, 1) := by decide +kernel
theorem dX6_at_6 : decode cX6_at 6 = .ok (.imul, 1) := by decide +kernel
theorem dX6_at_7 : decode cX6_at 7 = .ok (.iaload, 1) := by decide +kernel
theorem dX6_at_8 : decode cX6_at 8 = .ok (.iload_n 2, 1) := by decide +kernel
theorem dX6_at_9 : decode cX6_at 9 = .ok (.bipush 64, 2) := by decide +kernel
theorem dX6_at_11 : decode cX6_at 11 = .ok (.idiv, 1) := by decide +kernel
theorem dX6_at_12 : decode cX6_at 12 = .ok (.imul, 1) := by decide +kernel
theorem dX6_at_13 : decode cX6_at 13 = .ok (.aload_n 0, 1) := by decide +kernel
theorem dX6_at_14 : decode cX6_at 14 = .ok (.getfield 28, 3) := by decide +kernel
theorem dX6_at_17 : decode cX6_at 17 = .ok (.iconst 3, 1) := by decide +kernel
theorem dX6_at_18 : decode cX6_at 18 = .ok (.iload_n 1, 1) := by decide +kernel
theorem dX6_at_19 : decode cX6_at 19 = .ok (.imul, 1) := by decide +kernel
theorem dX6_at_20 : decode cX6_at 20 = .ok (.iconst 1, 1) := by decide +kernel
theorem dX6_at_21 : decode cX6_at 21 = .ok (.iadd, 1) := by decide +kernel
theorem dX6_at_22 : decode cX6_at 22 = .ok (.iaload, 1) := by decide +kernel
theorem dX6_at_23 : decode cX6_at 23 = .ok (.iload_n 2, 1) := by decide +kernel
theorem dX6_at_24 : decode cX6_at 24 = .ok (.bipush 8, 2) := by decide +kernel
theorem dX6_at_26 : decode cX6_at 26 = .ok (.idiv, 1) := by decide +kernel
theorem dX6_at_27 : decode cX6_at 27 = .ok (.bipush 8, 2) := by decide +kernel
theorem dX6_at_29 : decode cX6_at 29 = .ok (.irem, 1) := by decide +kernel
theorem dX6_at_30 : decode cX6_at 30 = .ok (.imul, 1) := by decide +kernel
theorem dX6_at_31 : decode cX6_at 31 = .ok (.iadd, 1) := by decide +kernel
theorem dX6_at_32 : decode cX6_at 32 = .ok (.aload_n 0, 1) := by decide +kernel
theorem dX6_at_33 : decode cX6_at 33 = .ok (.getfield 28, 3) := by decide +kernel
theorem dX6_at_36 : decode cX6_at 36 = .ok (.iconst 3, 1) := by decide +kernel
theorem dX6_at_37 : decode cX6_at 37 = .ok (.iload_n 1, 1) := by decide +kernel
theorem dX6_at_38 : decode cX6_at 38 = .ok (.imul, 1) := by decide +kernel
theorem dX6_at_39 : decode cX6_at 39 = .ok (.iconst 2, 1) := by decide +kernel
theorem dX6_at_40 : decode cX6_at 40 = .ok (.iadd, 1) := by decide +kernel
theorem dX6_at_41 : decode cX6_at 41 = .ok (.iaload, 1) := by decide +kernel
theorem dX6_at_42 : decode cX6_at 42 = .ok (.iload_n 2, 1) := by decide +kernel
theorem dX6_at_43 : decode cX6_at 43 = .ok (.bipush 8, 2) := by decide +kernel
theorem dX6_at_45 : decode cX6_at 45 = .ok (.irem, 1) := by decide +kernel
theorem dX6_at_46 : decode cX6_at 46 = .ok (.imul, 1) := by decide +kernel
theorem dX6_at_47 : decode cX6_at 47 = .ok (.iadd, 1) := by decide +kernel
theorem dX6_at_48 : decode cX6_at 48 = .ok (.istore_n 3, 1) := by decide +kernel
theorem dX6_at_49 : decode cX6_at 49 = .ok (.iconst 0, 1) := by decide +kernel
theorem dX6_at_50 : decode cX6_at 50 = .ok (.istore 4, 2) := by decide +kernel
theorem dX6_at_52 : decode cX6_at 52 = .ok (.iload 4, 2) := by decide +kernel
theorem dX6_at_54 : decode cX6_at 54 = .ok (.iconst 3, 1) := by decide +kernel
theorem dX6_at_55 : decode cX6_at 55 = .ok (.if_icmp .ge 46, 3) := by decide +kernel
theorem dX6_at_58 : decode cX6_at 58 = .ok (.aload_n 0, 1) := by decide +kernel
theorem dX6_at_59 : decode cX6_at 59 = .ok (.getfield 28, 3) := by decide +kernel
theorem dX6_at_62 : decode cX6_at 62 = .ok (.iconst 3, 1) := by decide +kernel
theorem dX6_at_63 : decode cX6_at 63 = .ok (.iload_n 1, 1) := by decide +kernel
theorem dX6_at_64 : decode cX6_at 64 = .ok (.imul, 1) := by decide +kernel
theorem dX6_at_65 : decode cX6_at 65 = .ok (.iload 4, 2) := by decide +kernel
theorem dX6_at_67 : decode cX6_at 67 = .ok (.iadd, 1) := by decide +kernel
theorem dX6_at_68 : decode cX6_at 68 = .ok (.iaload, 1) := by decide +kernel
theorem dX6_at_69 : decode cX6_at 69 = .ok (.istore 5, 2) := by decide +kernel
theorem dX6_at_71 : decode cX6_at 71 = .ok (.iload_n 3, 1) := by decide +kernel
theorem dX6_at_72 : decode cX6_at 72 = .ok (.iload 5, 2) := by decide +kernel
theorem dX6_at_74 : decode cX6_at 74 = .ok (.ifCond .ge 18, 3) := by decide +kernel
theorem dX6_at_77 : decode cX6_at 77 = .ok (.iload 5, 2) := by decide +kernel
theorem dX6_at_79 : decode cX6_at 79 = .ok (.aload_n 0, 1) := by decide +kernel
theorem dX6_at_80 : decode cX6_at 80 = .ok (.getfield 7, 3) := by decide +kernel
theorem dX6_at_83 : decode cX6_at 83 = .ok (.iload 4, 2) := by decide +kernel
theorem dX6_at_85 : decode cX6_at 85 = .ok (.iaload, 1) := by decide +kernel
theorem dX6_at_86 : decode cX6_at 86 = .ok (.iconst 1, 1) := by decide +kernel
theorem dX6_at_87 : decode cX6_at 87 = .ok (.isub, 1) := by decide +kernel
theorem dX6_at_88 : decode cX6_at 88 = .ok (.imul, 1) := by decide +kernel
theorem dX6_at_89 : decode cX6_at 89 = .ok (.goto 4, 3) := by decide +kernel
theorem dX6_at_92 : decode cX6_at 92 = .ok (.iconst 0, 1) := by decide +kernel
theorem dX6_at_93 : decode cX6_at 93 = .ok (.isub, 1) := by decide +kernel
theorem dX6_at_94 : decode cX6_at 94 = .ok (.istore_n 3, 1) := by decide +kernel
theorem dX6_at_95 : decode cX6_at 95 = .ok (.iinc 4 1, 3) := by decide +kernel
theorem dX6_at_98 : decode cX6_at 98 = .ok (.goto (-46), 3) := by decide +kernel
theorem dX6_at_101 : decode cX6_at 101 = .ok (.iload_n 3, 1) := by decide +kernel
theorem dX6_at_102 : decode cX6_at 102 = .ok (.ireturn, 1) := by decide +kernel
theorem dX6_beatOf_0 : decode cX6_beatOf 0 = .ok (.aload_n 0, 1) := by decide +kernel
theorem dX6_beatOf_1 : decode cX6_beatOf 1 = .ok (.getfield 31, 3) := by decide +kernel
theorem dX6_beatOf_4 : decode cX6_beatOf 4 = .ok (.aload_n 0, 1) := by decide +kernel
theorem dX6_beatOf_5 : decode cX6_beatOf 5 = .ok (.iconst 0, 1) := by decide +kernel
theorem dX6_beatOf_6 : decode cX6_beatOf 6 = .ok (.iload_n 1, 1) := by decide +kernel
theorem dX6_beatOf_7 : decode cX6_beatOf 7 = .ok (.invokevirtual 75, 3) := by decide +kernel
theorem dX6_beatOf_10 : decode cX6_beatOf 10 = .ok (.imul, 1) := by decide +kernel
theorem dX6_beatOf_11 : decode cX6_beatOf 11 = .ok (.aload_n 0, 1) := by decide +kernel
theorem dX6_beatOf_12 : decode cX6_beatOf 12 = .ok (.iconst 1, 1) := by decide +kernel
theorem dX6_beatOf_13 : decode cX6_beatOf 13 = .ok (.iload_n 1, 1) := by decide +kernel
theorem dX6_beatOf_14 : decode cX6_beatOf 14 = .ok (.invokevirtual 75, 3) := by decide +kernel
theorem dX6_beatOf_17 : decode cX6_beatOf 17 = .ok (.aload_n 0, 1) := by decide +kernel
theorem dX6_beatOf_18 : decode cX6_beatOf 18 = .ok (.getfield 31, 3) := by decide +kernel
theorem dX6_beatOf_21 : decode cX6_beatOf 21 = .ok (.irem, 1) := by decide +kernel
theorem dX6_beatOf_22 : decode cX6_beatOf 22 = .ok (.iadd, 1) := by decide +kernel
theorem dX6_beatOf_23 : decode cX6_beatOf 23 = .ok (.ireturn, 1) := by decide +kernel
theorem dX6_cellOf_0 : decode cX6_cellOf 0 = .ok (.aload_n 0, 1) := by decide +kernel
