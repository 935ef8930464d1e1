theorem dX4_init_0 : decode cX4_init 0 = .ok (.aload_n 0, 1) := by decide +kernel
theorem dX4_init_1 : decode cX4_init 1 = .ok (.invokespecial 3, 3) := by decide +kernel
theorem dX4_init_4 : decode cX4_init 4 = .ok (.aload_n 0, 1) := by decide +kernel
theorem dX4_init_5 : decode cX4_init 5 = .ok (.iconst 3, 1) := by decide +kernel
theorem dX4_init_6 : decode cX4_init 6 = .ok (.newarray .int, 2) := by decide +kernel
theorem dX4_init_8 : decode cX4_init 8 = .ok (.dup, 1) := by decide +kernel
theorem dX4_init_9 : decode cX4_init 9 = .ok (.iconst 0, 1) := by decide +kernel
theorem dX4_init_10 : decode cX4_init 10 = .ok (.iconst 1, 1) := by decide +kernel
theorem dX4_init_11 : decode cX4_init 11 = .ok (.iastore, 1) := by decide +kernel
theorem dX4_init_12 : decode cX4_init 12 = .ok (.dup, 1) := by decide +kernel
theorem dX4_init_13 : decode cX4_init 13 = .ok (.iconst 1, 1) := by decide +kernel
theorem dX4_init_14 : decode cX4_init 14 = .ok (.iconst 1, 1) := by decide +kernel
theorem dX4_init_15 : decode cX4_init 15 = .ok (.iastore, 1) := by decide +kernel
theorem dX4_init_16 : decode cX4_init 16 = .ok (.dup, 1) := by decide +kernel
theorem dX4_init_17 : decode cX4_init 17 = .ok (.iconst 2, 1) := by decide +kernel
theorem dX4_init_18 : decode cX4_init 18 = .ok (.iconst 1, 1) := by decide +kernel
theorem dX4_init_19 : decode cX4_init 19 = .ok (.iastore, 1) := by decide +kernel
theorem dX4_init_20 : decode cX4_init 20 = .ok (.putfield 9, 3) := by decide +kernel
theorem dX4_init_23 : decode cX4_init 23 = .ok (.aload_n 0, 1) := by decide +kernel
theorem dX4_init_24 : decode cX4_init 24 = .ok (.sipush 512, 3) := by decide +kernel
theorem dX4_init_27 : decode cX4_init 27 = .ok (.newarray .int, 2) := by decide +kernel
theorem dX4_init_29 : decode cX4_init 29 = .ok (.putfield 15, 3) := by decide +kernel
theorem dX4_init_32 : decode cX4_init 32 = .ok (.aload_n 0, 1) := by decide +kernel
theorem dX4_init_33 : decode cX4_init 33 = .ok (.iconst 1, 1) := by decide +kernel
theorem dX4_init_34 : decode cX4_init 34 = .ok (.putfield 18, 3) := by decide +kernel
theorem dX4_init_37 : decode cX4_init 37 = .ok (.aload_n 0, 1) := by decide +kernel
theorem dX4_init_38 : decode cX4_init 38 = .ok (.iconst 0, 1) := by decide +kernel
theorem dX4_init_39 : decode cX4_init 39 = .ok (.putfield 22, 3) := by decide +kernel
theorem dX4_init_42 : decode cX4_init 42 = .ok (.aload_n 0, 1) := by decide +kernel
theorem dX4_init_43 : decode cX4_init 43 = .ok (.bipush 12, 2) := by decide +kernel
theorem dX4_init_45 : decode cX4_init 45 = .ok (.newarray .int, 2) := by decide +kernel
theorem dX4_init_47 : decode cX4_init 47 = .ok (.putfield 25, 3) := by decide +kernel
theorem dX4_init_50 : decode cX4_init 50 = .ok (.aload_n 0, 1) := by decide +kernel
theorem dX4_init_51 : decode cX4_init 51 = .ok (.iconst 4, 1) := by decide +kernel
theorem dX4_init_52 : decode cX4_init 52 = .ok (.newarray .int, 2) := by decide +kernel
theorem dX4_init_54 : decode cX4_init 54 = .ok (.putfield 28, 3) := by decide +kernel
theorem dX4_init_57 : decode cX4_init 57 = .ok (.aload_n 0, 1) := by decide +kernel
theorem dX4_init_58 : decode cX4_init 58 = .ok (.iconst 4, 1) := by decide +kernel
theorem dX4_init_59 : decode cX4_init 59 = .ok (.newarray .int, 2) := by decide +kernel
theorem dX4_init_61 : decode cX4_init 61 = .ok (.putfield 31, 3) := by decide +kernel
theorem dX4_init_64 : decode cX4_init 64 = .ok (.aload_n 0, 1) := by decide +kernel
theorem dX4_init_65 : decode cX4_init 65 = .ok (.iconst 4, 1) := by decide +kernel
theorem dX4_init_66 : decode cX4_init 66 = .ok (.newarray .int, 2) := by decide +kernel
theorem dX4_init_68 : decode cX4_init 68 = .ok (.putfield 34, 3) := by decide +kernel
theorem dX4_init_71 : decode cX4_init 71 = .ok (.aload_n 0, 1) := by decide +kernel
theorem dX4_init_72 : decode cX4_init 72 = .ok (.sipush 2048, 3) := by decide +kernel
theorem dX4_init_75 : decode cX4_init 75 = .ok (.newarray .int, 2) := by decide +kernel
theorem dX4_init_77 : decode cX4_init 77 = .ok (.putfield 37, 3) := by decide +kernel
theorem dX4_init_80 : decode cX4_init 80 = .ok (.aload_n 0, 1) := by decide +kernel
theorem dX4_init_81 : decode cX4_init 81 = .ok (.sipush 2048, 3) := by decide +kernel
theorem dX4_init_84 : decode cX4_init 84 = .ok (.newarray .int, 2) := by decide +kernel
theorem dX4_init_86 : decode cX4_init 86 = .ok (.putfield 40, 3) := by decide +kernel
theorem dX4_init_89 : decode cX4_init 89 = .ok (.aload_n 0, 1) := by decide +kernel
theorem dX4_init_90 : decode cX4_init 90 = .ok (.iconst 0, 1) := by decide +kernel
theorem dX4_init_91 : decode cX4_init 91 = .ok (.putfield 43, 3) := by decide +kernel
theorem dX4_init_94 : decode cX4_init 94 = .ok (.return_, 1) := by decide +kernel
theorem dX4_resize_0 : decode cX4_resize 0 = .ok (.aload_n 0, 1) := by decide +kernel
theorem dX4_resize_1 : decode cX4_resize 1 = .ok (.getfield 9, 3) := by decide +kernel
theorem dX4_resize_4 : decode cX4_resize 4 = .ok (.iconst 0, 1) := by decide +kernel
theorem dX4_resize_5 : decode cX4_resize 5 = .ok (.iload_n 1, 1) := by decide +kernel
theorem dX4_resize_6 : decode cX4_resize 6 = .ok (.iastore, 1) := by decide +kernel
theorem dX4_resize_7 : decode cX4_resize 7 = .ok (.aload_n 0, 1) := by decide +kernel
theorem dX4_resize_8 : decode cX4_resize 8 = .ok (.getfield 9, 3) := by decide +kernel
theorem dX4_resize_11 : decode cX4_resize 11 = .ok (.iconst 1, 1) := by decide +kernel
theorem dX4_resize_12 : decode cX4_resize 12 = .ok (.iload_n 2, 1) := by decide +kernel
theorem dX4_resize_13 : decode cX4_resize 13 = .ok (.iastore, 1) := by decide +kernel
theorem dX4_resize_14 : decode cX4_resize 14 = .ok (.aload_n 0, 1) := by decide +kernel
theorem dX4_resize_15 : decode cX4_resize 15 = .ok (.getfield 9, 3) := by decide +kernel
theorem dX4_resize_18 : decode cX4_resize 18 = .ok (.iconst 2, 1) := by decide +kernel
theorem dX4_resize_19 : decode cX4_resize 19 = .ok (.iload_n 3, 1) := by decide +kernel
theorem dX4_resize_20 : decode cX4_resize 20 = .ok (.iastore, 1) := by decide +kernel
theorem dX4_resize_21 : decode cX4_resize 21 = .ok (.aload_n 0, 1) := by decide +kernel
theorem dX4_resize_22 : decode cX4_resize 22 = .ok (.iconst 0, 1) := by decide +kernel
theorem dX4_resize_23 : decode cX4_resize 23 = .ok (.putfield 18, 3) := by decide +kernel
theorem dX4_resize_26 : decode cX4_resize 26 = .ok (.iconst 0, 1) := by decide +kernel
theorem dX4_resize_27 : decode cX4_resize 27 = .ok (.istore 4, 2) := by decide +kernel
theorem dX4_resize_29 : decode cX4_resize 29 = .ok (.iload 4, 2) := by decide +kernel
theorem dX4_resize_31 : decode cX4_resize 31 = .ok (.sipush 512, 3) := by decide +kernel
theorem dX4_resize_34 : decode cX4_resize 34 = .ok (.if_icmp .ge 55, 3) := by decide +kernel
theorem dX4_resize_37 : decode cX4_resize 37 = .ok (.aload_n 0, 1) := by decide +kernel
theorem dX4_resize_38 : decode cX4_resize 38 = .ok (.iload 4, 2) := by decide +kernel
theorem dX4_resize_40 : decode cX4_resize 40 = .ok (.bipush 6, 2) := by decide +kernel
theorem dX4_resize_42 : decode cX4_resize 42 = .ok (.ishr, 1) := by decide +kernel
theorem dX4_resize_43 : decode cX4_resize 43 = .ok (.iload 4, 2) := by decide +kernel
theorem dX4_resize_45 : decode cX4_resize 45 = .ok (.iconst 3, 1) := by decide +kernel
theorem dX4_resize_46 : decode cX4_resize 46 = .ok (.ishr, 1) := by decide +kernel
theorem dX4_resize_47 : decode cX4_resize 47 = .ok (.bipush 7, 2) := by decide +kernel
theorem dX4_resize_49 : decode cX4_resize 49 = .ok (.iand, 1) := by decide +kernel
theorem dX4_resize_50 : decode cX4_resize 50 = .ok (.iload 4, 2) := by decide +kernel
theorem dX4_resize_52 : decode cX4_resize 52 = .ok (.bipush 7, 2) := by decide +kernel
theorem dX4_resize_54 : decode cX4_resize 54 = .ok (.iand, 1) := by decide +kernel
theorem dX4_resize_55 : decode cX4_resize 55 = .ok (.invokevirtual 47, 3) := by decide +kernel
theorem dX4_resize_58 : decode cX4_resize 58 = .ok (.iconst (-1), 1) := by decide +kernel
theorem dX4_resize_59 : decode cX4_resize 59 = .ok (.if_icmp .eq 24, 3) := by decide +kernel
theorem dX4_resize_62 : decode cX4_resize 62 = .ok (.aload_n 0, 1) := by decide +kernel
theorem dX4_resize_63 : decode cX4_resize 63 = .ok (.getfield 15, 3) := by decide +kernel
theorem dX4_resize_66 : decode cX4_resize 66 = .ok (.aload_n 0, 1) := by decide +kernel
theorem dX4_resize_67 : decode cX4_resize 67 = .ok (.getfield 18, 3) := by decide +kernel
theorem dX4_resize_70 : decode cX4_resize 70 = .ok (.iload 4, 2) := by decide +kernel
theorem dX4_resize_72 : decode cX4_resize 72 = .ok (.iastore, 1) := by decide +kernel
theorem dX4_resize_73 : decode cX4_resize 73 = .ok (.aload_n 0, 1) := by decide +kernel
theorem dX4_resize_74 : decode cX4_resize 74 = .ok (.dup, 1) := by decide +kernel
theorem dX4_resize_75 : decode cX4_resize 75 = .ok (.getfield 18, 3) := by decide +kernel
theorem dX4_resize_78 : decode cX4_resize 78 = .ok (.iconst 1, 1) := by decide +kernel
theorem dX4_resize_79 : decode cX4_resize 79 = .ok (.iadd, 1) := by decide +kernel
theorem dX4_resize_80 : decode cX4_resize 80 = .ok (.putfield 18, 3) := by decide +kernel
theorem dX4_resize_83 : decode cX4_resize 83 = .ok (.iinc 4 1, 3) := by decide +kernel
theorem dX4_resize_86 : decode cX4_resize 86 = .ok (.goto (-57), 3) := by decide +kernel
theorem dX4_resize_89 : decode cX4_resize 89 = .ok (.aload_n 0, 1) := by decide +kernel
theorem dX4_resize_90 : decode cX4_resize 90 = .ok (.getfield 37, 3) := by decide +kernel
theorem dX4_resize_93 : decode cX4_resize 93 = .ok (.iconst 0, 1) := by decide +kernel
theorem dX4_resize_94 : decode cX4_resize 94 = .ok (.invokestatic 51, 3) := by decide +kernel
theorem dX4_resize_97 : decode cX4_resize 97 = .ok (.aload_n 0, 1) := by decide +kernel
theorem dX4_resize_98 : decode cX4_resize 98 = .ok (.iconst 0, 1) := by decide +kernel
theorem dX4_resize_99 : decode cX4_resize 99 = .ok (.putfield 43, 3) := by decide +kernel
theorem dX4_resize_102 : decode cX4_resize 102 = .ok (.return_, 1) := by decide +kernel
theorem dX4_addVariable_0 : decode cX4_addVariable 0 = .ok (.aload_n 0, 1) := by decide +kernel
theorem dX4_addVariable_1 : decode cX4_addVariable 1 = .ok (.getfield 22, 3) := by decide +kernel
theorem dX4_addVariable_4 : decode cX4_addVariable 4 = .ok (.istore 4, 2) := by decide +kernel
theorem dX4_addVariable_6 : decode cX4_addVariable 6 = .ok (.aload_n 0, 1) := by decide +kernel
theorem dX4_addVariable_7 : decode cX4_addVariable 7 = .ok (.dup, 1) := by decide +kernel
theorem dX4_addVariable_8 : decode cX4_addVariable 8 = .ok (.getfield 22, 3) := by decide +kernel
theorem dX4_addVariable_11 : decode cX4_addVariable 11 = .ok (.iconst 1, 1) := by decide +kernel
theorem dX4_addVariable_12 : decode cX4_addVariable 12 = .ok (.iadd, 1) := by decide +kernel
theorem dX4_addVariable_13 : decode cX4_addVariable 13 = .ok (.putfield 22, 3) := by decide +kernel
theorem dX4_addVariable_16 : decode cX4_addVariable 16 = .ok (.aload_n 0, 1) := by decide +kernel
theorem dX4_addVariable_17 : decode cX4_addVariable 17 = .ok (.getfield 25, 3) := by decide +kernel
theorem dX4_addVariable_20 : decode cX4_addVariable 20 = .ok (.iconst 3, 1) := by decide +kernel
theorem dX4_addVariable_21 : decode cX4_addVariable 21 = .ok (.iload 4, 2) := by decide +kernel
theorem dX4_addVariable_23 : decode cX4_addVariable 23 = .ok (.imul, 1) := by decide +kernel
theorem dX4_addVariable_24 : decode cX4_addVariable 24 = .ok (.iload_n 1, 1) := by decide +kernel
theorem dX4_addVariable_25 : decode cX4_addVariable 25 = .ok (.iastore, 1) := by decide +kernel
theorem dX4_addVariable_26 : decode cX4_addVariable 26 = .ok (.aload_n 0, 1) := by decide +kernel
theorem dX4_addVariable_27 : decode cX4_addVariable 27 = .ok (.getfield 25, 3) := by decide +kernel
theorem dX4_addVariable_30 : decode cX4_addVariable 30 = .ok (.iconst 3, 1) := by decide +kernel
theorem dX4_addVariable_31 : decode cX4_addVariable 31 = .ok (.iload 4, 2) := by decide +kernel
theorem dX4_addVariable_33 : decode cX4_addVariable 33 = .ok (.imul, 1) := by decide +kernel
theorem dX4_addVariable_34 : decode cX4_addVariable 34 = .ok (.iconst 1, 1) := by decide +kernel
theorem dX4_addVariable_35 : decode cX4_addVariable 35 = .ok (.iadd, 1) := by decide +kernel
theorem dX4_addVariable_36 : decode cX4_addVariable 36 = .ok (.iload_n 2, 1) := by decide +kernel
theorem dX4_addVariable_37 : decode cX4_addVariable 37 = .ok (.iastore, 1) := by decide +kernel
theorem dX4_addVariable_38 : decode cX4_addVariable 38 = .ok (.aload_n 0, 1) := by decide +kernel
theorem dX4_addVariable_39 : decode cX4_addVariable 39 = .ok (.getfield 25, 3) := by decide +kernel
theorem dX4_addVariable_42 : decode cX4_addVariable 42 = .ok (.iconst 3, 1) := by decide +kernel
theorem dX4_addVariable_43 : decode cX4_addVariable 43 = .ok (.iload 4, 2) := by decide +kernel
theorem dX4_addVariable_45 : decode cX4_addVariable 45 = .ok (.imul, 1) := by decide +kernel
theorem dX4_addVariable_46 : decode cX4_addVariable 46 = .ok (.iconst 2, 1) := by decide +kernel
theorem dX4_addVariable_47 : decode cX4_addVariable 47 = .ok (.iadd, 1) := by decide +kernel
theorem dX4_addVariable_48 : decode cX4_addVariable 48 = .ok (.iload_n 3, 1) := by decide +kernel
theorem dX4_addVariable_49 : decode cX4_addVariable 49 = .ok (.iastore, 1) := by decide +kernel
theorem dX4_addVariable_50 : decode cX4_addVariable 50 = .ok (.aload_n 0, 1) := by decide +kernel
theorem dX4_addVariable_51 : decode cX4_addVariable 51 = .ok (.iload 4, 2) := by decide +kernel
theorem dX4_addVariable_53 : decode cX4_addVariable 53 = .ok (.iconst 0, 1) := by decide +kernel
theorem dX4_addVariable_54 : decode cX4_addVariable 54 = .ok (.iconst 0, 1) := by decide +kernel
theorem dX4_addVariable_55 : decode cX4_addVariable 55 = .ok (.iconst 0, 1) := by decide +kernel
theorem dX4_addVariable_56 : decode cX4_addVariable 56 = .ok (.invokevirtual 57, 3) := by decide +kernel
theorem dX4_addVariable_59 : decode cX4_addVariable 59 = .ok (.iload 4, 2) := by decide +kernel
theorem dX4_addVariable_61 : decode cX4_addVariable 61 = .ok (.ireturn, 1) := by decide +kernel
theorem dX4_setAct_0 : decode cX4_setAct 0 = .ok (.aload_n 0, 1) := by decide +kernel
theorem dX4_setAct_1 : decode cX4_setAct 1 = .ok (.getfield 28, 3) := by decide +kernel
theorem dX4_setAct_4 : decode cX4_setAct 4 = .ok (.iload_n 1, 1) := by decide +kernel
theorem dX4_setAct_5 : decode cX4_setAct 5 = .ok (.iload_n 2, 1) := by decide +kernel
theorem dX4_setAct_6 : decode cX4_setAct 6 = .ok (.iastore, 1) := by decide +kernel
theorem dX4_setAct_7 : decode cX4_setAct 7 = .ok (.aload_n 0, 1) := by decide +kernel
theorem dX4_setAct_8 : decode cX4_setAct 8 = .ok (.getfield 31, 3) := by decide +kernel
theorem dX4_setAct_11 : decode cX4_setAct 11 = .ok (.iload_n 1, 1) := by decide +kernel
theorem dX4_setAct_12 : decode cX4_setAct 12 = .ok (.iload_n 3, 1) := by decide +kernel
theorem dX4_setAct_13 : decode cX4_setAct 13 = .ok (.iastore, 1) := by decide +kernel
theorem dX4_setAct_14 : decode cX4_setAct 14 = .ok (.aload_n 0, 1) := by decide +kernel
theorem dX4_setAct_15 : decode cX4_setAct 15 = .ok (.getfield 34, 3) := by decide +kernel
theorem dX4_setAct_18 : decode cX4_setAct 18 = .ok (.iload_n 1, 1) := by decide +kernel
theorem dX4_setAct_19 : decode cX4_setAct 19 = .ok (.iload 4, 2) := by decide +kernel
theorem dX4_setAct_21 : decode cX4_setAct 21 = .ok (.iastore, 1) := by decide +kernel
theorem dX4_setAct_22 : decode cX4_setAct 22 = .ok (.aload_n 0, 1) := by decide +kernel
theorem dX4_setAct_23 : decode cX4_setAct 23 = .ok (.iconst 0, 1) := by decide +kernel
theorem dX4_setAct_24 : decode cX4_setAct 24 = .ok (.putfield 43, 3) := by decide +kernel
theorem dX4_setAct_27 : decode cX4_setAct 27 = .ok (.return_, 1) := by decide +kernel
theorem dX4_setEdge_0 : decode cX4_setEdge 0 = .ok (.aload_n 0, 1) := by decide +kernel
theorem dX4_setEdge_1 : decode cX4_setEdge 1 = .ok (.getfield 37, 3) := by decide +kernel
theorem dX4_setEdge_4 : decode cX4_setEdge 4 = .ok (.iload_n 1, 1) := by decide +kernel
theorem dX4_setEdge_5 : decode cX4_setEdge 5 = .ok (.sipush 512, 3) := by decide +kernel
theorem dX4_setEdge_8 : decode cX4_setEdge 8 = .ok (.imul, 1) := by decide +kernel
theorem dX4_setEdge_9 : decode cX4_setEdge 9 = .ok (.iload_n 2, 1) := by decide +kernel
theorem dX4_setEdge_10 : decode cX4_setEdge 10 = .ok (.iadd, 1) := by decide +kernel
theorem dX4_setEdge_11 : decode cX4_setEdge 11 = .ok (.iload_n 3, 1) := by decide +kernel
theorem dX4_setEdge_12 : decode cX4_setEdge 12 = .ok (.iastore, 1) := by decide +kernel
theorem dX4_setEdge_13 : decode cX4_setEdge 13 = .ok (.aload_n 0, 1) := by decide +kernel
theorem dX4_setEdge_14 : decode cX4_setEdge 14 = .ok (.iconst 0, 1) := by decide +kernel
theorem dX4_setEdge_15 : decode cX4_setEdge 15 = .ok (.putfield 43, 3) := by decide +kernel
theorem dX4_setEdge_18 : decode cX4_setEdge 18 = .ok (.return_, 1) := by decide +kernel
theorem dX4_dropVariables_0 : decode cX4_dropVariables 0 = .ok (.aload_n 0, 1) := by decide +kernel
theorem dX4_dropVariables_1 : decode cX4_dropVariables 1 = .ok (.iconst 0, 1) := by decide +kernel
theorem dX4_dropVariables_2 : decode cX4_dropVariables 2 = .ok (.putfield 22, 3) := by decide +kernel
theorem dX4_dropVariables_5 : decode cX4_dropVariables 5 = .ok (.aload_n 0, 1) := by decide +kernel
theorem dX4_dropVariables_6 : decode cX4_dropVariables 6 = .ok (.getfield 37, 3) := by decide +kernel
theorem dX4_dropVariables_9 : decode cX4_dropVariables 9 = .ok (.iconst 0, 1) := by decide +kernel
theorem dX4_dropVariables_10 : decode cX4_dropVariables 10 = .ok (.invokestatic 51, 3) := by decide +kernel
theorem dX4_dropVariables_13 : decode cX4_dropVariables 13 = .ok (.aload_n 0, 1) := by decide +kernel
theorem dX4_dropVariables_14 : decode cX4_dropVariables 14 = .ok (.iconst 0, 1) := by decide +kernel
theorem dX4_dropVariables_15 : decode cX4_dropVariables 15 = .ok (.putfield 43, 3) := by decide +kernel
theorem dX4_dropVariables_18 : decode cX4_dropVariables 18 = .ok (.return_, 1) := by decide +kernel
theorem dX4_has_0 : decode cX4_has 0 = .ok (.iload_n 1, 1) := by decide +kernel
theorem dX4_has_1 : decode cX4_has 1 = .ok (.ifCond .lt 15, 3) := by decide +kernel
theorem dX4_has_4 : decode cX4_has 4 = .ok (.iload_n 1, 1) := by decide +kernel
theorem dX4_has_5 : decode cX4_has 5 = .ok (.aload_n 0, 1) := by decide +kernel
theorem dX4_has_6 : decode cX4_has 6 = .ok (.getfield 22, 3) := by decide +kernel
theorem dX4_has_9 : decode cX4_has 9 = .ok (.if_icmp .ge 7, 3) := by decide +kernel
theorem dX4_has_12 : decode cX4_has 12 = .ok (.iconst 1, 1) := by decide +kernel
theorem dX4_has_13 : decode cX4_has 13 = .ok (.goto 4, 3) := by decide +kernel
theorem dX4_has_16 : decode cX4_has 16 = .ok (.iconst 0, 1) := by decide +kernel
theorem dX4_has_17 : decode cX4_has 17 = .ok (.ireturn, 1) := by decide +kernel
theorem dX4_codeOf_0 : decode cX4_codeOf 0 = .ok (.iload_n 1, 1) := by decide +kernel
theorem dX4_codeOf_1 : decode cX4_codeOf 1 = .ok (.ifCond .lt 41, 3) := by decide +kernel
theorem dX4_codeOf_4 : decode cX4_codeOf 4 = .ok (.iload_n 1, 1) := by decide +kernel
theorem dX4_codeOf_5 : decode cX4_codeOf 5 = .ok (.aload_n 0, 1) := by decide +kernel
theorem dX4_codeOf_6 : decode cX4_codeOf 6 = .ok (.getfield 9, 3) := by decide +kernel
theorem dX4_codeOf_9 : decode cX4_codeOf 9 = .ok (.iconst 0, 1) := by decide +kernel
theorem dX4_codeOf_10 : decode cX4_codeOf 10 = .ok (.iaload, 1) := by decide +kernel
theorem dX4_codeOf_11 : decode cX4_codeOf 11 = .ok (.if_icmp .ge 31, 3) := by decide +kernel
theorem dX4_codeOf_14 : decode cX4_codeOf 14 = .ok (.iload_n 2, 1) := by decide +kernel
theorem dX4_codeOf_15 : decode cX4_codeOf 15 = .ok (.ifCond .lt 27, 3) := by decide +kernel
theorem dX4_codeOf_18 : decode cX4_codeOf 18 = .ok (.iload_n 2, 1) := by decide +kernel
theorem dX4_codeOf_19 : decode cX4_codeOf 19 = .ok (.aload_n 0, 1) := by decide +kernel
theorem dX4_codeOf_20 : decode cX4_codeOf 20 = .ok (.getfield 9, 3) := by decide +kernel
theorem dX4_codeOf_23 : decode cX4_codeOf 23 = .ok (.iconst 1, 1) := by decide +kernel
theorem dX4_codeOf_24 : decode cX4_codeOf 24 = .ok (.iaload, 1) := by decide +kernel
theorem dX4_codeOf_25 : decode cX4_codeOf 25 = .ok (.if_icmp .ge 17, 3) := by decide +kernel
theorem dX4_codeOf_28 : decode cX4_codeOf 28 = .ok (.iload_n 3, 1) := by decide +kernel
theorem dX4_codeOf_29 : decode cX4_codeOf 29 = .ok (.ifCond .lt 13, 3) := by decide +kernel
theorem dX4_codeOf_32 : decode cX4_codeOf 32 = .ok (.iload_n 3, 1) := by decide +kernel
theorem dX4_codeOf_33 : decode cX4_codeOf 33 = .ok (.aload_n 0, 1) := by decide +kernel
theorem dX4_codeOf_34 : decode cX4_codeOf 34 = .ok (.getfield 9, 3) := by decide +kernel
theorem dX4_codeOf_37 : decode cX4_codeOf 37 = .ok (.iconst 2, 1) := by decide +kernel
theorem dX4_codeOf_38 : decode cX4_codeOf 38 = .ok (.iaload, 1) := by decide +kernel
theorem dX4_codeOf_39 : decode cX4_codeOf 39 = .ok (.if_icmp .lt 5, 3) := by decide +kernel
theorem dX4_codeOf_42 : decode cX4_codeOf 42 = .ok (.iconst (-1), 1) := by decide +kernel
theorem dX4_codeOf_43 : decode cX4_codeOf 43 = .ok (.ireturn, 1) := by decide +kernel
theorem dX4_codeOf_44 : decode cX4_codeOf 44 = .ok (.bipush 64, 2) := by decide +kernel
theorem dX4_codeOf_46 : decode cX4_codeOf 46 = .ok (.iload_n 1, 1) := by decide +kernel
theorem dX4_codeOf_47 : decode cX4_codeOf 47 = .ok (.imul, 1) := by decide +kernel
theorem dX4_codeOf_48 : decode cX4_codeOf 48 = .ok (.bipush 8, 2) := by decide +kernel
theorem dX4_codeOf_50 : decode cX4_codeOf 50 = .ok (.iload_n 2, 1) := by decide +kernel
theorem dX4_codeOf_51 : decode cX4_codeOf 51 = .ok (.imul, 1) := by decide +kernel
theorem dX4_codeOf_52 : decode cX4_codeOf 52 = .ok (.iadd, 1) := by decide +kernel
theorem dX4_codeOf_53 : decode cX4_codeOf 53 = .ok (.iload_n 3, 1) := by decide +kernel
theorem dX4_codeOf_54 : decode cX4_codeOf 54 = .ok (.iadd, 1) := by decide +kernel
theorem dX4_codeOf_55 : decode cX4_codeOf 55 = .ok (.ireturn, 1) := by decide +kernel
theorem dX4_isNeeded_0 : decode cX4_isNeeded 0 = .ok (.iconst 0, 1) := by decide +kernel
theorem dX4_isNeeded_1 : decode cX4_isNeeded 1 = .ok (.istore_n 2, 1) := by decide +kernel
theorem dX4_isNeeded_2 : decode cX4_isNeeded 2 = .ok (.iload_n 2, 1) := by decide +kernel
theorem dX4_isNeeded_3 : decode cX4_isNeeded 3 = .ok (.iconst 3, 1) := by decide +kernel
theorem dX4_isNeeded_4 : decode cX4_isNeeded 4 = .ok (.if_icmp .ge 33, 3) := by decide +kernel
theorem dX4_isNeeded_7 : decode cX4_isNeeded 7 = .ok (.aload_n 0, 1) := by decide +kernel
theorem dX4_isNeeded_8 : decode cX4_isNeeded 8 = .ok (.getfield 25, 3) := by decide +kernel
theorem dX4_isNeeded_11 : decode cX4_isNeeded 11 = .ok (.iconst 3, 1) := by decide +kernel
theorem dX4_isNeeded_12 : decode cX4_isNeeded 12 = .ok (.iload_n 1, 1) := by decide +kernel
theorem dX4_isNeeded_13 : decode cX4_isNeeded 13 = .ok (.imul, 1) := by decide +kernel
theorem dX4_isNeeded_14 : decode cX4_isNeeded 14 = .ok (.iload_n 2, 1) := by decide +kernel
theorem dX4_isNeeded_15 : decode cX4_isNeeded 15 = .ok (.iadd, 1) := by decide +kernel
theorem dX4_isNeeded_16 : decode cX4_isNeeded 16 = .ok (.iaload, 1) := by decide +kernel
theorem dX4_isNeeded_17 : decode cX4_isNeeded 17 = .ok (.invokestatic 61, 3) := by decide +kernel
theorem dX4_isNeeded_20 : decode cX4_isNeeded 20 = .ok (.aload_n 0, 1) := by decide +kernel
theorem dX4_isNeeded_21 : decode cX4_isNeeded 21 = .ok (.getfield 9, 3) := by decide +kernel
theorem dX4_isNeeded_24 : decode cX4_isNeeded 24 = .ok (.iload_n 2, 1) := by decide +kernel
theorem dX4_isNeeded_25 : decode cX4_isNeeded 25 = .ok (.iaload, 1) := by decide +kernel
theorem dX4_isNeeded_26 : decode cX4_isNeeded 26 = .ok (.if_icmp .lt 5, 3) := by decide +kernel
theorem dX4_isNeeded_29 : decode cX4_isNeeded 29 = .ok (.iconst 0, 1) := by decide +kernel
theorem dX4_isNeeded_30 : decode cX4_isNeeded 30 = .ok (.ireturn, 1) := by decide +kernel
theorem dX4_isNeeded_31 : decode cX4_isNeeded 31 = .ok (.iinc 2 1, 3) := by decide +kernel
theorem dX4_isNeeded_34 : decode cX4_isNeeded 34 = .ok (.goto (-32), 3) := by decide +kernel
theorem dX4_isNeeded_37 : decode cX4_isNeeded 37 = .ok (.iconst 1, 1) := by decide +kernel
theorem dX4_isNeeded_38 : decode cX4_isNeeded 38 = .ok (.ireturn, 1) := by decide +kernel
theorem dX4_stepped_0 : decode cX4_stepped 0 = .ok (.iload_n 2, 1) := by decide +kernel
theorem dX4_stepped_1 : decode cX4_stepped 1 = .ok (.bipush 6, 2) := by decide +kernel
theorem dX4_stepped_3 : decode cX4_stepped 3 = .ok (.ishr, 1) := by decide +kernel
theorem dX4_stepped_4 : decode cX4_stepped 4 = .ok (.iload_n 3, 1) := by decide +kernel
theorem dX4_stepped_5 : decode cX4_stepped 5 = .ok (.aload_n 0, 1) := by decide +kernel
theorem dX4_stepped_6 : decode cX4_stepped 6 = .ok (.getfield 25, 3) := by decide +kernel
theorem dX4_stepped_9 : decode cX4_stepped 9 = .ok (.iconst 3, 1) := by decide +kernel
theorem dX4_stepped_10 : decode cX4_stepped 10 = .ok (.iload_n 1, 1) := by decide +kernel
theorem dX4_stepped_11 : decode cX4_stepped 11 = .ok (.imul, 1) := by decide +kernel
theorem dX4_stepped_12 : decode cX4_stepped 12 = .ok (.iaload, 1) := by decide +kernel
theorem dX4_stepped_13 : decode cX4_stepped 13 = .ok (.imul, 1) := by decide +kernel
theorem dX4_stepped_14 : decode cX4_stepped 14 = .ok (.iadd, 1) := by decide +kernel
theorem dX4_stepped_15 : decode cX4_stepped 15 = .ok (.istore 4, 2) := by decide +kernel
theorem dX4_stepped_17 : decode cX4_stepped 17 = .ok (.iload_n 2, 1) := by decide +kernel
theorem dX4_stepped_18 : decode cX4_stepped 18 = .ok (.iconst 3, 1) := by decide +kernel
theorem dX4_stepped_19 : decode cX4_stepped 19 = .ok (.ishr, 1) := by decide +kernel
theorem dX4_stepped_20 : decode cX4_stepped 20 = .ok (.bipush 7, 2) := by decide +kernel
theorem dX4_stepped_22 : decode cX4_stepped 22 = .ok (.iand, 1) := by decide +kernel
theorem dX4_stepped_23 : decode cX4_stepped 23 = .ok (.iload_n 3, 1) := by decide +kernel
theorem dX4_stepped_24 : decode cX4_stepped 24 = .ok (.aload_n 0, 1) := by decide +kernel
theorem dX4_stepped_25 : decode cX4_stepped 25 = .ok (.getfield 25, 3) := by decide +kernel
theorem dX4_stepped_28 : decode cX4_stepped 28 = .ok (.iconst 3, 1) := by decide +kernel
theorem dX4_stepped_29 : decode cX4_stepped 29 = .ok (.iload_n 1, 1) := by decide +kernel
theorem dX4_stepped_30 : decode cX4_stepped 30 = .ok (.imul, 1) := by decide +kernel
theorem dX4_stepped_31 : decode cX4_stepped 31 = .ok (.iconst 1, 1) := by decide +kernel
theorem dX4_stepped_32 : decode cX4_stepped 32 = .ok (.iadd, 1) := by decide +kernel
theorem dX4_stepped_33 : decode cX4_stepped 33 = .ok (.iaload, 1) := by decide +kernel
theorem dX4_stepped_34 : decode cX4_stepped 34 = .ok (.imul, 1) := by decide +kernel
theorem dX4_stepped_35 : decode cX4_stepped 35 = .ok (.iadd, 1) := by decide +kernel
theorem dX4_stepped_36 : decode cX4_stepped 36 = .ok (.istore 5, 2) := by decide +kernel
theorem dX4_stepped_38 : decode cX4_stepped 38 = .ok (.iload_n 2, 1) := by decide +kernel
theorem dX4_stepped_39 : decode cX4_stepped 39 = .ok (.bipush 7, 2) := by decide +kernel
theorem dX4_stepped_41 : decode cX4_stepped 41 = .ok (.iand, 1) := by decide +kernel
theorem dX4_stepped_42 : decode cX4_stepped 42 = .ok (.iload_n 3, 1) := by decide +kernel
theorem dX4_stepped_43 : decode cX4_stepped 43 = .ok (.aload_n 0, 1) := by decide +kernel
theorem dX4_stepped_44 : decode cX4_stepped 44 = .ok (.getfield 25, 3) := by decide +kernel
theorem dX4_stepped_47 : decode cX4_stepped 47 = .ok (.iconst 3, 1) := by decide +kernel
theorem dX4_stepped_48 : decode cX4_stepped 48 = .ok (.iload_n 1, 1) := by decide +kernel
theorem dX4_stepped_49 : decode cX4_stepped 49 = .ok (.imul, 1) := by decide +kernel
theorem dX4_stepped_50 : decode cX4_stepped 50 = .ok (.iconst 2, 1) := by decide +kernel
theorem dX4_stepped_51 : decode cX4_stepped 51 = .ok (.iadd, 1) := by decide +kernel
theorem dX4_stepped_52 : decode cX4_stepped 52 = .ok (.iaload, 1) := by decide +kernel
theorem dX4_stepped_53 : decode cX4_stepped 53 = .ok (.imul, 1) := by decide +kernel
theorem dX4_stepped_54 : decode cX4_stepped 54 = .ok (.iadd, 1) := by decide +kernel
theorem dX4_stepped_55 : decode cX4_stepped 55 = .ok (.istore 6, 2) := by decide +kernel
theorem dX4_stepped_57 : decode cX4_stepped 57 = .ok (.aload_n 0, 1) := by decide +kernel
theorem dX4_stepped_58 : decode cX4_stepped 58 = .ok (.iload 4, 2) := by decide +kernel
theorem dX4_stepped_60 : decode cX4_stepped 60 = .ok (.iload 5, 2) := by decide +kernel
theorem dX4_stepped_62 : decode cX4_stepped 62 = .ok (.iload 6, 2) := by decide +kernel
theorem dX4_stepped_64 : decode cX4_stepped 64 = .ok (.invokevirtual 47, 3) := by decide +kernel
theorem dX4_stepped_67 : decode cX4_stepped 67 = .ok (.ireturn, 1) := by decide +kernel
theorem dX4_workPoint_0 : decode cX4_workPoint 0 = .ok (.iconst 0, 1) := by decide +kernel
theorem dX4_workPoint_1 : decode cX4_workPoint 1 = .ok (.istore_n 3, 1) := by decide +kernel
theorem dX4_workPoint_2 : decode cX4_workPoint 2 = .ok (.iload_n 3, 1) := by decide +kernel
theorem dX4_workPoint_3 : decode cX4_workPoint 3 = .ok (.aload_n 0, 1) := by decide +kernel
theorem dX4_workPoint_4 : decode cX4_workPoint 4 = .ok (.getfield 22, 3) := by decide +kernel
theorem dX4_workPoint_7 : decode cX4_workPoint 7 = .ok (.if_icmp .ge 70, 3) := by decide +kernel
theorem dX4_workPoint_10 : decode cX4_workPoint 10 = .ok (.aload_n 0, 1) := by decide +kernel
theorem dX4_workPoint_11 : decode cX4_workPoint 11 = .ok (.aload_n 1, 1) := by decide +kernel
theorem dX4_workPoint_12 : decode cX4_workPoint 12 = .ok (.iload_n 3, 1) := by decide +kernel
theorem dX4_workPoint_13 : decode cX4_workPoint 13 = .ok (.iload_n 2, 1) := by decide +kernel
theorem dX4_workPoint_14 : decode cX4_workPoint 14 = .ok (.invokevirtual 67, 3) := by decide +kernel
theorem dX4_workPoint_17 : decode cX4_workPoint 17 = .ok (.istore 4, 2) := by decide +kernel
theorem dX4_workPoint_19 : decode cX4_workPoint 19 = .ok (.aload_n 0, 1) := by decide +kernel
theorem dX4_workPoint_20 : decode cX4_workPoint 20 = .ok (.aload_n 1, 1) := by decide +kernel
theorem dX4_workPoint_21 : decode cX4_workPoint 21 = .ok (.aload_n 0, 1) := by decide +kernel
theorem dX4_workPoint_22 : decode cX4_workPoint 22 = .ok (.getfield 31, 3) := by decide +kernel
theorem dX4_workPoint_25 : decode cX4_workPoint 25 = .ok (.iload_n 3, 1) := by decide +kernel
theorem dX4_workPoint_26 : decode cX4_workPoint 26 = .ok (.iaload, 1) := by decide +kernel
theorem dX4_workPoint_27 : decode cX4_workPoint 27 = .ok (.iload_n 2, 1) := by decide +kernel
theorem dX4_workPoint_28 : decode cX4_workPoint 28 = .ok (.invokevirtual 67, 3) := by decide +kernel
theorem dX4_workPoint_31 : decode cX4_workPoint 31 = .ok (.istore 5, 2) := by decide +kernel
theorem dX4_workPoint_33 : decode cX4_workPoint 33 = .ok (.aload_n 0, 1) := by decide +kernel
theorem dX4_workPoint_34 : decode cX4_workPoint 34 = .ok (.aload_n 1, 1) := by decide +kernel
theorem dX4_workPoint_35 : decode cX4_workPoint 35 = .ok (.aload_n 0, 1) := by decide +kernel
theorem dX4_workPoint_36 : decode cX4_workPoint 36 = .ok (.getfield 34, 3) := by decide +kernel
theorem dX4_workPoint_39 : decode cX4_workPoint 39 = .ok (.iload_n 3, 1) := by decide +kernel
theorem dX4_workPoint_40 : decode cX4_workPoint 40 = .ok (.iaload, 1) := by decide +kernel
theorem dX4_workPoint_41 : decode cX4_workPoint 41 = .ok (.iload_n 2, 1) := by decide +kernel
theorem dX4_workPoint_42 : decode cX4_workPoint 42 = .ok (.invokevirtual 67, 3) := by decide +kernel
theorem dX4_workPoint_45 : decode cX4_workPoint 45 = .ok (.istore 6, 2) := by decide +kernel
theorem dX4_workPoint_47 : decode cX4_workPoint 47 = .ok (.aload_n 1, 1) := by decide +kernel
theorem dX4_workPoint_48 : decode cX4_workPoint 48 = .ok (.iload_n 3, 1) := by decide +kernel
theorem dX4_workPoint_49 : decode cX4_workPoint 49 = .ok (.sipush 512, 3) := by decide +kernel
theorem dX4_workPoint_52 : decode cX4_workPoint 52 = .ok (.imul, 1) := by decide +kernel
theorem dX4_workPoint_53 : decode cX4_workPoint 53 = .ok (.iload_n 2, 1) := by decide +kernel
theorem dX4_workPoint_54 : decode cX4_workPoint 54 = .ok (.iadd, 1) := by decide +kernel
theorem dX4_workPoint_55 : decode cX4_workPoint 55 = .ok (.aload_n 0, 1) := by decide +kernel
theorem dX4_workPoint_56 : decode cX4_workPoint 56 = .ok (.getfield 28, 3) := by decide +kernel
theorem dX4_workPoint_59 : decode cX4_workPoint 59 = .ok (.iload_n 3, 1) := by decide +kernel
theorem dX4_workPoint_60 : decode cX4_workPoint 60 = .ok (.iaload, 1) := by decide +kernel
theorem dX4_workPoint_61 : decode cX4_workPoint 61 = .ok (.iload 4, 2) := by decide +kernel
theorem dX4_workPoint_63 : decode cX4_workPoint 63 = .ok (.iload 5, 2) := by decide +kernel
theorem dX4_workPoint_65 : decode cX4_workPoint 65 = .ok (.iload 6, 2) := by decide +kernel
theorem dX4_workPoint_67 : decode cX4_workPoint 67 = .ok (.invokestatic 71, 3) := by decide +kernel
theorem dX4_workPoint_70 : decode cX4_workPoint 70 = .ok (.iastore, 1) := by decide +kernel
theorem dX4_workPoint_71 : decode cX4_workPoint 71 = .ok (.iinc 3 1, 3) := by decide +kernel
theorem dX4_workPoint_74 : decode cX4_workPoint 74 = .ok (.goto (-72), 3) := by decide +kernel
theorem dX4_workPoint_77 : decode cX4_workPoint 77 = .ok (.return_, 1) := by decide +kernel
theorem dX4_comes_0 : decode cX4_comes 0 = .ok (.aload_n 0, 1) := by decide +kernel
theorem dX4_comes_1 : decode cX4_comes 1 = .ok (.iload_n 2, 1) := by decide +kernel
theorem dX4_comes_2 : decode cX4_comes 2 = .ok (.iload_n 3, 1) := by decide +kernel
theorem dX4_comes_3 : decode cX4_comes 3 = .ok (.iconst (-1), 1) := by decide +kernel
theorem dX4_comes_4 : decode cX4_comes 4 = .ok (.invokevirtual 75, 3) := by decide +kernel
theorem dX4_comes_7 : decode cX4_comes 7 = .ok (.istore 4, 2) := by decide +kernel
theorem dX4_comes_9 : decode cX4_comes 9 = .ok (.iload 4, 2) := by decide +kernel
theorem dX4_comes_11 : decode cX4_comes 11 = .ok (.iconst (-1), 1) := by decide +kernel
theorem dX4_comes_12 : decode cX4_comes 12 = .ok (.if_icmp .ne 18, 3) := by decide +kernel
theorem dX4_comes_15 : decode cX4_comes 15 = .ok (.aload_n 0, 1) := by decide +kernel
theorem dX4_comes_16 : decode cX4_comes 16 = .ok (.getfield 37, 3) := by decide +kernel
theorem dX4_comes_19 : decode cX4_comes 19 = .ok (.iload_n 2, 1) := by decide +kernel
theorem dX4_comes_20 : decode cX4_comes 20 = .ok (.sipush 512, 3) := by decide +kernel
theorem dX4_comes_23 : decode cX4_comes 23 = .ok (.imul, 1) := by decide +kernel
theorem dX4_comes_24 : decode cX4_comes 24 = .ok (.iload_n 3, 1) := by decide +kernel
theorem dX4_comes_25 : decode cX4_comes 25 = .ok (.iadd, 1) := by decide +kernel
theorem dX4_comes_26 : decode cX4_comes 26 = .ok (.iaload, 1) := by decide +kernel
theorem dX4_comes_27 : decode cX4_comes 27 = .ok (.goto 13, 3) := by decide +kernel
theorem dX4_comes_30 : decode cX4_comes 30 = .ok (.aload_n 1, 1) := by decide +kernel
theorem dX4_comes_31 : decode cX4_comes 31 = .ok (.iload_n 2, 1) := by decide +kernel
theorem dX4_comes_32 : decode cX4_comes 32 = .ok (.sipush 512, 3) := by decide +kernel
theorem dX4_comes_35 : decode cX4_comes 35 = .ok (.imul, 1) := by decide +kernel
theorem dX4_comes_36 : decode cX4_comes 36 = .ok (.iload 4, 2) := by decide +kernel
theorem dX4_comes_38 : decode cX4_comes 38 = .ok (.iadd, 1) := by decide +kernel
theorem dX4_comes_39 : decode cX4_comes 39 = .ok (.iaload, 1) := by decide +kernel
theorem dX4_comes_40 : decode cX4_comes 40 = .ok (.ireturn, 1) := by decide +kernel
theorem dX4_made_0 : decode cX4_made 0 = .ok (.iload_n 0, 1) := by decide +kernel
theorem dX4_made_1 : decode cX4_made 1 = .ok (.tableswitch 81 1 7 #[43, 49, 57, 63, 69, 73, 77], 43) := by decide +kernel
theorem dX4_made_44 : decode cX4_made 44 = .ok (.iload_n 1, 1) := by decide +kernel
theorem dX4_made_45 : decode cX4_made 45 = .ok (.iload_n 2, 1) := by decide +kernel
theorem dX4_made_46 : decode cX4_made 46 = .ok (.iload_n 3, 1) := by decide +kernel
theorem dX4_made_47 : decode cX4_made 47 = .ok (.imul, 1) := by decide +kernel
theorem dX4_made_48 : decode cX4_made 48 = .ok (.iadd, 1) := by decide +kernel
theorem dX4_made_49 : decode cX4_made 49 = .ok (.ireturn, 1) := by decide +kernel
theorem dX4_made_50 : decode cX4_made 50 = .ok (.iload_n 1, 1) := by decide +kernel
theorem dX4_made_51 : decode cX4_made 51 = .ok (.iload_n 2, 1) := by decide +kernel
theorem dX4_made_52 : decode cX4_made 52 = .ok (.iload_n 3, 1) := by decide +kernel
theorem dX4_made_53 : decode cX4_made 53 = .ok (.iadd, 1) := by decide +kernel
theorem dX4_made_54 : decode cX4_made 54 = .ok (.invokestatic 78, 3) := by decide +kernel
theorem dX4_made_57 : decode cX4_made 57 = .ok (.ireturn, 1) := by decide +kernel
theorem dX4_made_58 : decode cX4_made 58 = .ok (.iload_n 2, 1) := by decide +kernel
theorem dX4_made_59 : decode cX4_made 59 = .ok (.iload_n 3, 1) := by decide +kernel
theorem dX4_made_60 : decode cX4_made 60 = .ok (.invokestatic 78, 3) := by decide +kernel
theorem dX4_made_63 : decode cX4_made 63 = .ok (.ireturn, 1) := by decide +kernel
theorem dX4_made_64 : decode cX4_made 64 = .ok (.iload_n 2, 1) := by decide +kernel
theorem dX4_made_65 : decode cX4_made 65 = .ok (.iload_n 3, 1) := by decide +kernel
theorem dX4_made_66 : decode cX4_made 66 = .ok (.invokestatic 82, 3) := by decide +kernel
theorem dX4_made_69 : decode cX4_made 69 = .ok (.ireturn, 1) := by decide +kernel
theorem dX4_made_70 : decode cX4_made 70 = .ok (.iload_n 2, 1) := by decide +kernel
theorem dX4_made_71 : decode cX4_made 71 = .ok (.iload_n 3, 1) := by decide +kernel
theorem dX4_made_72 : decode cX4_made 72 = .ok (.iadd, 1) := by decide +kernel
theorem dX4_made_73 : decode cX4_made 73 = .ok (.ireturn, 1) := by decide +kernel
theorem dX4_made_74 : decode cX4_made 74 = .ok (.iload_n 2, 1) := by decide +kernel
theorem dX4_made_75 : decode cX4_made 75 = .ok (.iload_n 3, 1) := by decide +kernel
theorem dX4_made_76 : decode cX4_made 76 = .ok (.isub, 1) := by decide +kernel
theorem dX4_made_77 : decode cX4_made 77 = .ok (.ireturn, 1) := by decide +kernel
theorem dX4_made_78 : decode cX4_made 78 = .ok (.iload_n 2, 1) := by decide +kernel
theorem dX4_made_79 : decode cX4_made 79 = .ok (.iload_n 3, 1) := by decide +kernel
theorem dX4_made_80 : decode cX4_made 80 = .ok (.ixor, 1) := by decide +kernel
theorem dX4_made_81 : decode cX4_made 81 = .ok (.ireturn, 1) := by decide +kernel
theorem dX4_made_82 : decode cX4_made 82 = .ok (.iload_n 1, 1) := by decide +kernel
theorem dX4_made_83 : decode cX4_made 83 = .ok (.ireturn, 1) := by decide +kernel
theorem dX4_plainValue_0 : decode cX4_plainValue 0 = .ok (.aload_n 0, 1) := by decide +kernel
theorem dX4_plainValue_1 : decode cX4_plainValue 1 = .ok (.getfield 43, 3) := by decide +kernel
theorem dX4_plainValue_4 : decode cX4_plainValue 4 = .ok (.ifCond .ne 38, 3) := by decide +kernel
theorem dX4_plainValue_7 : decode cX4_plainValue 7 = .ok (.iconst 0, 1) := by decide +kernel
theorem dX4_plainValue_8 : decode cX4_plainValue 8 = .ok (.istore_n 3, 1) := by decide +kernel
theorem dX4_plainValue_9 : decode cX4_plainValue 9 = .ok (.iload_n 3, 1) := by decide +kernel
theorem dX4_plainValue_10 : decode cX4_plainValue 10 = .ok (.aload_n 0, 1) := by decide +kernel
theorem dX4_plainValue_11 : decode cX4_plainValue 11 = .ok (.getfield 18, 3) := by decide +kernel
theorem dX4_plainValue_14 : decode cX4_plainValue 14 = .ok (.if_icmp .ge 23, 3) := by decide +kernel
theorem dX4_plainValue_17 : decode cX4_plainValue 17 = .ok (.aload_n 0, 1) := by decide +kernel
theorem dX4_plainValue_18 : decode cX4_plainValue 18 = .ok (.aload_n 0, 1) := by decide +kernel
theorem dX4_plainValue_19 : decode cX4_plainValue 19 = .ok (.getfield 40, 3) := by decide +kernel
theorem dX4_plainValue_22 : decode cX4_plainValue 22 = .ok (.aload_n 0, 1) := by decide +kernel
theorem dX4_plainValue_23 : decode cX4_plainValue 23 = .ok (.getfield 15, 3) := by decide +kernel
theorem dX4_plainValue_26 : decode cX4_plainValue 26 = .ok (.iload_n 3, 1) := by decide +kernel
theorem dX4_plainValue_27 : decode cX4_plainValue 27 = .ok (.iaload, 1) := by decide +kernel
theorem dX4_plainValue_28 : decode cX4_plainValue 28 = .ok (.invokevirtual 85, 3) := by decide +kernel
theorem dX4_plainValue_31 : decode cX4_plainValue 31 = .ok (.iinc 3 1, 3) := by decide +kernel
theorem dX4_plainValue_34 : decode cX4_plainValue 34 = .ok (.goto (-25), 3) := by decide +kernel
theorem dX4_plainValue_37 : decode cX4_plainValue 37 = .ok (.aload_n 0, 1) := by decide +kernel
theorem dX4_plainValue_38 : decode cX4_plainValue 38 = .ok (.iconst 1, 1) := by decide +kernel
theorem dX4_plainValue_39 : decode cX4_plainValue 39 = .ok (.putfield 43, 3) := by decide +kernel
theorem dX4_plainValue_42 : decode cX4_plainValue 42 = .ok (.aload_n 0, 1) := by decide +kernel
theorem dX4_plainValue_43 : decode cX4_plainValue 43 = .ok (.getfield 40, 3) := by decide +kernel
theorem dX4_plainValue_46 : decode cX4_plainValue 46 = .ok (.iload_n 1, 1) := by decide +kernel
theorem dX4_plainValue_47 : decode cX4_plainValue 47 = .ok (.sipush 512, 3) := by decide +kernel
theorem dX4_plainValue_50 : decode cX4_plainValue 50 = .ok (.imul, 1) := by decide +kernel
theorem dX4_plainValue_51 : decode cX4_plainValue 51 = .ok (.iload_n 2, 1) := by decide +kernel
theorem dX4_plainValue_52 : decode cX4_plainValue 52 = .ok (.iadd, 1) := by decide +kernel
theorem dX4_plainValue_53 : decode cX4_plainValue 53 = .ok (.iaload, 1) := by decide +kernel
theorem dX4_plainValue_54 : decode cX4_plainValue 54 = .ok (.ireturn, 1) := by decide +kernel
theorem dX4_resultCode_0 : decode cX4_resultCode 0 = .ok (.iconst 0, 1) := by decide +kernel
theorem dX4_resultCode_1 : decode cX4_resultCode 1 = .ok (.istore_n 3, 1) := by decide +kernel
theorem dX4_resultCode_2 : decode cX4_resultCode 2 = .ok (.iconst 0, 1) := by decide +kernel
theorem dX4_resultCode_3 : decode cX4_resultCode 3 = .ok (.istore 4, 2) := by decide +kernel
theorem dX4_resultCode_5 : decode cX4_resultCode 5 = .ok (.iload 4, 2) := by decide +kernel
theorem dX4_resultCode_7 : decode cX4_resultCode 7 = .ok (.aload_n 0, 1) := by decide +kernel
theorem dX4_resultCode_8 : decode cX4_resultCode 8 = .ok (.getfield 18, 3) := by decide +kernel
theorem dX4_resultCode_11 : decode cX4_resultCode 11 = .ok (.if_icmp .ge 42, 3) := by decide +kernel
theorem dX4_resultCode_14 : decode cX4_resultCode 14 = .ok (.aload_n 0, 1) := by decide +kernel
theorem dX4_resultCode_15 : decode cX4_resultCode 15 = .ok (.iload_n 1, 1) := by decide +kernel
theorem dX4_resultCode_16 : decode cX4_resultCode 16 = .ok (.aload_n 0, 1) := by decide +kernel
theorem dX4_resultCode_17 : decode cX4_resultCode 17 = .ok (.getfield 15, 3) := by decide +kernel
theorem dX4_resultCode_20 : decode cX4_resultCode 20 = .ok (.iload 4, 2) := by decide +kernel
theorem dX4_resultCode_22 : decode cX4_resultCode 22 = .ok (.iaload, 1) := by decide +kernel
theorem dX4_resultCode_23 : decode cX4_resultCode 23 = .ok (.iconst 1, 1) := by decide +kernel
theorem dX4_resultCode_24 : decode cX4_resultCode 24 = .ok (.invokevirtual 75, 3) := by decide +kernel
theorem dX4_resultCode_27 : decode cX4_resultCode 27 = .ok (.iconst (-1), 1) := by decide +kernel
theorem dX4_resultCode_28 : decode cX4_resultCode 28 = .ok (.if_icmp .ne 19, 3) := by decide +kernel
theorem dX4_resultCode_31 : decode cX4_resultCode 31 = .ok (.iload_n 3, 1) := by decide +kernel
theorem dX4_resultCode_32 : decode cX4_resultCode 32 = .ok (.iload_n 2, 1) := by decide +kernel
theorem dX4_resultCode_33 : decode cX4_resultCode 33 = .ok (.if_icmp .ne 11, 3) := by decide +kernel
theorem dX4_resultCode_36 : decode cX4_resultCode 36 = .ok (.aload_n 0, 1) := by decide +kernel
theorem dX4_resultCode_37 : decode cX4_resultCode 37 = .ok (.getfield 15, 3) := by decide +kernel
theorem dX4_resultCode_40 : decode cX4_resultCode 40 = .ok (.iload 4, 2) := by decide +kernel
theorem dX4_resultCode_42 : decode cX4_resultCode 42 = .ok (.iaload, 1) := by decide +kernel
theorem dX4_resultCode_43 : decode cX4_resultCode 43 = .ok (.ireturn, 1) := by decide +kernel
theorem dX4_resultCode_44 : decode cX4_resultCode 44 = .ok (.iinc 3 1, 3) := by decide +kernel
theorem dX4_resultCode_47 : decode cX4_resultCode 47 = .ok (.iinc 4 1, 3) := by decide +kernel
theorem dX4_resultCode_50 : decode cX4_resultCode 50 = .ok (.goto (-45), 3) := by decide +kernel
theorem dX4_resultCode_53 : decode cX4_resultCode 53 = .ok (.iconst (-1), 1) := by decide +kernel
theorem dX4_resultCode_54 : decode cX4_resultCode 54 = .ok (.ireturn, 1) := by decide +kernel
