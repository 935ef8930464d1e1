theorem dX5_init_0 : decode cX5_init 0 = .ok (.aload_n 0, 1) := by decide +kernel
theorem dX5_init_1 : decode cX5_init 1 = .ok (.invokespecial 3, 3) := by decide +kernel
theorem dX5_init_4 : decode cX5_init 4 = .ok (.aload_n 0, 1) := by decide +kernel
theorem dX5_init_5 : decode cX5_init 5 = .ok (.new 9, 3) := by decide +kernel
theorem dX5_init_8 : decode cX5_init 8 = .ok (.dup, 1) := by decide +kernel
theorem dX5_init_9 : decode cX5_init 9 = .ok (.invokespecial 11, 3) := by decide +kernel
theorem dX5_init_12 : decode cX5_init 12 = .ok (.putfield 12, 3) := by decide +kernel
theorem dX5_init_15 : decode cX5_init 15 = .ok (.aload_n 0, 1) := by decide +kernel
theorem dX5_init_16 : decode cX5_init 16 = .ok (.new 16, 3) := by decide +kernel
theorem dX5_init_19 : decode cX5_init 19 = .ok (.dup, 1) := by decide +kernel
theorem dX5_init_20 : decode cX5_init 20 = .ok (.invokespecial 18, 3) := by decide +kernel
theorem dX5_init_23 : decode cX5_init 23 = .ok (.putfield 19, 3) := by decide +kernel
theorem dX5_init_26 : decode cX5_init 26 = .ok (.aload_n 0, 1) := by decide +kernel
theorem dX5_init_27 : decode cX5_init 27 = .ok (.new 23, 3) := by decide +kernel
theorem dX5_init_30 : decode cX5_init 30 = .ok (.dup, 1) := by decide +kernel
theorem dX5_init_31 : decode cX5_init 31 = .ok (.invokespecial 25, 3) := by decide +kernel
theorem dX5_init_34 : decode cX5_init 34 = .ok (.putfield 26, 3) := by decide +kernel
theorem dX5_init_37 : decode cX5_init 37 = .ok (.aload_n 0, 1) := by decide +kernel
theorem dX5_init_38 : decode cX5_init 38 = .ok (.new 30, 3) := by decide +kernel
theorem dX5_init_41 : decode cX5_init 41 = .ok (.dup, 1) := by decide +kernel
theorem dX5_init_42 : decode cX5_init 42 = .ok (.invokespecial 32, 3) := by decide +kernel
theorem dX5_init_45 : decode cX5_init 45 = .ok (.putfield 33, 3) := by decide +kernel
theorem dX5_init_48 : decode cX5_init 48 = .ok (.aload_n 0, 1) := by decide +kernel
theorem dX5_init_49 : decode cX5_init 49 = .ok (.new 37, 3) := by decide +kernel
theorem dX5_init_52 : decode cX5_init 52 = .ok (.dup, 1) := by decide +kernel
theorem dX5_init_53 : decode cX5_init 53 = .ok (.invokespecial 39, 3) := by decide +kernel
theorem dX5_init_56 : decode cX5_init 56 = .ok (.putfield 40, 3) := by decide +kernel
theorem dX5_init_59 : decode cX5_init 59 = .ok (.return_, 1) := by decide +kernel
theorem dX5_sizes_0 : decode cX5_sizes 0 = .ok (.iload_n 1, 1) := by decide +kernel
theorem dX5_sizes_1 : decode cX5_sizes 1 = .ok (.invokestatic 44, 3) := by decide +kernel
theorem dX5_sizes_4 : decode cX5_sizes 4 = .ok (.ifCond .eq 17, 3) := by decide +kernel
theorem dX5_sizes_7 : decode cX5_sizes 7 = .ok (.iload_n 2, 1) := by decide +kernel
theorem dX5_sizes_8 : decode cX5_sizes 8 = .ok (.invokestatic 44, 3) := by decide +kernel
theorem dX5_sizes_11 : decode cX5_sizes 11 = .ok (.ifCond .eq 10, 3) := by decide +kernel
theorem dX5_sizes_14 : decode cX5_sizes 14 = .ok (.iload_n 3, 1) := by decide +kernel
theorem dX5_sizes_15 : decode cX5_sizes 15 = .ok (.invokestatic 44, 3) := by decide +kernel
theorem dX5_sizes_18 : decode cX5_sizes 18 = .ok (.ifCond .ne 5, 3) := by decide +kernel
theorem dX5_sizes_21 : decode cX5_sizes 21 = .ok (.iconst 0, 1) := by decide +kernel
theorem dX5_sizes_22 : decode cX5_sizes 22 = .ok (.ireturn, 1) := by decide +kernel
theorem dX5_sizes_23 : decode cX5_sizes 23 = .ok (.aload_n 0, 1) := by decide +kernel
theorem dX5_sizes_24 : decode cX5_sizes 24 = .ok (.getfield 12, 3) := by decide +kernel
theorem dX5_sizes_27 : decode cX5_sizes 27 = .ok (.iload_n 1, 1) := by decide +kernel
theorem dX5_sizes_28 : decode cX5_sizes 28 = .ok (.iload_n 2, 1) := by decide +kernel
theorem dX5_sizes_29 : decode cX5_sizes 29 = .ok (.iload_n 3, 1) := by decide +kernel
theorem dX5_sizes_30 : decode cX5_sizes 30 = .ok (.invokevirtual 48, 3) := by decide +kernel
theorem dX5_sizes_33 : decode cX5_sizes 33 = .ok (.aload_n 0, 1) := by decide +kernel
theorem dX5_sizes_34 : decode cX5_sizes 34 = .ok (.invokevirtual 52, 3) := by decide +kernel
theorem dX5_sizes_37 : decode cX5_sizes 37 = .ok (.iconst 1, 1) := by decide +kernel
theorem dX5_sizes_38 : decode cX5_sizes 38 = .ok (.ireturn, 1) := by decide +kernel
theorem dX5_variable_0 : decode cX5_variable 0 = .ok (.aload_n 0, 1) := by decide +kernel
theorem dX5_variable_1 : decode cX5_variable 1 = .ok (.getfield 12, 3) := by decide +kernel
theorem dX5_variable_4 : decode cX5_variable 4 = .ok (.getfield 55, 3) := by decide +kernel
theorem dX5_variable_7 : decode cX5_variable 7 = .ok (.iconst 4, 1) := by decide +kernel
theorem dX5_variable_8 : decode cX5_variable 8 = .ok (.if_icmp .ge 12, 3) := by decide +kernel
theorem dX5_variable_11 : decode cX5_variable 11 = .ok (.iload_n 1, 1) := by decide +kernel
theorem dX5_variable_12 : decode cX5_variable 12 = .ok (.iload_n 2, 1) := by decide +kernel
theorem dX5_variable_13 : decode cX5_variable 13 = .ok (.iload_n 3, 1) := by decide +kernel
theorem dX5_variable_14 : decode cX5_variable 14 = .ok (.invokestatic 59, 3) := by decide +kernel
theorem dX5_variable_17 : decode cX5_variable 17 = .ok (.ifCond .ne 5, 3) := by decide +kernel
theorem dX5_variable_20 : decode cX5_variable 20 = .ok (.iconst (-1), 1) := by decide +kernel
theorem dX5_variable_21 : decode cX5_variable 21 = .ok (.ireturn, 1) := by decide +kernel
theorem dX5_variable_22 : decode cX5_variable 22 = .ok (.aload_n 0, 1) := by decide +kernel
theorem dX5_variable_23 : decode cX5_variable 23 = .ok (.getfield 40, 3) := by decide +kernel
theorem dX5_variable_26 : decode cX5_variable 26 = .ok (.iconst 0, 1) := by decide +kernel
theorem dX5_variable_27 : decode cX5_variable 27 = .ok (.putfield 63, 3) := by decide +kernel
theorem dX5_variable_30 : decode cX5_variable 30 = .ok (.aload_n 0, 1) := by decide +kernel
theorem dX5_variable_31 : decode cX5_variable 31 = .ok (.getfield 12, 3) := by decide +kernel
theorem dX5_variable_34 : decode cX5_variable 34 = .ok (.iload_n 1, 1) := by decide +kernel
theorem dX5_variable_35 : decode cX5_variable 35 = .ok (.iload_n 2, 1) := by decide +kernel
theorem dX5_variable_36 : decode cX5_variable 36 = .ok (.iload_n 3, 1) := by decide +kernel
theorem dX5_variable_37 : decode cX5_variable 37 = .ok (.invokevirtual 67, 3) := by decide +kernel
theorem dX5_variable_40 : decode cX5_variable 40 = .ok (.ireturn, 1) := by decide +kernel
theorem dX5_act_0 : decode cX5_act 0 = .ok (.aload_n 0, 1) := by decide +kernel
theorem dX5_act_1 : decode cX5_act 1 = .ok (.getfield 12, 3) := by decide +kernel
theorem dX5_act_4 : decode cX5_act 4 = .ok (.iload_n 1, 1) := by decide +kernel
theorem dX5_act_5 : decode cX5_act 5 = .ok (.invokevirtual 71, 3) := by decide +kernel
theorem dX5_act_8 : decode cX5_act 8 = .ok (.ifCond .eq 36, 3) := by decide +kernel
theorem dX5_act_11 : decode cX5_act 11 = .ok (.aload_n 0, 1) := by decide +kernel
theorem dX5_act_12 : decode cX5_act 12 = .ok (.getfield 12, 3) := by decide +kernel
theorem dX5_act_15 : decode cX5_act 15 = .ok (.iload_n 3, 1) := by decide +kernel
theorem dX5_act_16 : decode cX5_act 16 = .ok (.invokevirtual 71, 3) := by decide +kernel
theorem dX5_act_19 : decode cX5_act 19 = .ok (.ifCond .eq 25, 3) := by decide +kernel
theorem dX5_act_22 : decode cX5_act 22 = .ok (.aload_n 0, 1) := by decide +kernel
theorem dX5_act_23 : decode cX5_act 23 = .ok (.getfield 12, 3) := by decide +kernel
theorem dX5_act_26 : decode cX5_act 26 = .ok (.iload 4, 2) := by decide +kernel
theorem dX5_act_28 : decode cX5_act 28 = .ok (.invokevirtual 71, 3) := by decide +kernel
theorem dX5_act_31 : decode cX5_act 31 = .ok (.ifCond .eq 13, 3) := by decide +kernel
theorem dX5_act_34 : decode cX5_act 34 = .ok (.iload_n 2, 1) := by decide +kernel
theorem dX5_act_35 : decode cX5_act 35 = .ok (.ifCond .lt 9, 3) := by decide +kernel
theorem dX5_act_38 : decode cX5_act 38 = .ok (.iload_n 2, 1) := by decide +kernel
theorem dX5_act_39 : decode cX5_act 39 = .ok (.bipush 8, 2) := by decide +kernel
theorem dX5_act_41 : decode cX5_act 41 = .ok (.if_icmp .lt 5, 3) := by decide +kernel
theorem dX5_act_44 : decode cX5_act 44 = .ok (.iconst 0, 1) := by decide +kernel
theorem dX5_act_45 : decode cX5_act 45 = .ok (.ireturn, 1) := by decide +kernel
theorem dX5_act_46 : decode cX5_act 46 = .ok (.aload_n 0, 1) := by decide +kernel
theorem dX5_act_47 : decode cX5_act 47 = .ok (.getfield 12, 3) := by decide +kernel
theorem dX5_act_50 : decode cX5_act 50 = .ok (.iload_n 1, 1) := by decide +kernel
theorem dX5_act_51 : decode cX5_act 51 = .ok (.iload_n 2, 1) := by decide +kernel
theorem dX5_act_52 : decode cX5_act 52 = .ok (.iload_n 3, 1) := by decide +kernel
theorem dX5_act_53 : decode cX5_act 53 = .ok (.iload 4, 2) := by decide +kernel
theorem dX5_act_55 : decode cX5_act 55 = .ok (.invokevirtual 74, 3) := by decide +kernel
theorem dX5_act_58 : decode cX5_act 58 = .ok (.aload_n 0, 1) := by decide +kernel
theorem dX5_act_59 : decode cX5_act 59 = .ok (.getfield 40, 3) := by decide +kernel
theorem dX5_act_62 : decode cX5_act 62 = .ok (.iconst 0, 1) := by decide +kernel
theorem dX5_act_63 : decode cX5_act 63 = .ok (.putfield 63, 3) := by decide +kernel
theorem dX5_act_66 : decode cX5_act 66 = .ok (.iconst 1, 1) := by decide +kernel
theorem dX5_act_67 : decode cX5_act 67 = .ok (.ireturn, 1) := by decide +kernel
theorem dX5_edge_0 : decode cX5_edge 0 = .ok (.aload_n 0, 1) := by decide +kernel
theorem dX5_edge_1 : decode cX5_edge 1 = .ok (.getfield 12, 3) := by decide +kernel
theorem dX5_edge_4 : decode cX5_edge 4 = .ok (.iload_n 2, 1) := by decide +kernel
theorem dX5_edge_5 : decode cX5_edge 5 = .ok (.iload_n 3, 1) := by decide +kernel
theorem dX5_edge_6 : decode cX5_edge 6 = .ok (.iload 4, 2) := by decide +kernel
theorem dX5_edge_8 : decode cX5_edge 8 = .ok (.invokevirtual 78, 3) := by decide +kernel
theorem dX5_edge_11 : decode cX5_edge 11 = .ok (.istore 6, 2) := by decide +kernel
theorem dX5_edge_13 : decode cX5_edge 13 = .ok (.aload_n 0, 1) := by decide +kernel
theorem dX5_edge_14 : decode cX5_edge 14 = .ok (.getfield 12, 3) := by decide +kernel
theorem dX5_edge_17 : decode cX5_edge 17 = .ok (.iload_n 1, 1) := by decide +kernel
theorem dX5_edge_18 : decode cX5_edge 18 = .ok (.invokevirtual 71, 3) := by decide +kernel
theorem dX5_edge_21 : decode cX5_edge 21 = .ok (.ifCond .eq 9, 3) := by decide +kernel
theorem dX5_edge_24 : decode cX5_edge 24 = .ok (.iload 6, 2) := by decide +kernel
theorem dX5_edge_26 : decode cX5_edge 26 = .ok (.iconst (-1), 1) := by decide +kernel
theorem dX5_edge_27 : decode cX5_edge 27 = .ok (.if_icmp .ne 5, 3) := by decide +kernel
theorem dX5_edge_30 : decode cX5_edge 30 = .ok (.iconst 0, 1) := by decide +kernel
theorem dX5_edge_31 : decode cX5_edge 31 = .ok (.ireturn, 1) := by decide +kernel
theorem dX5_edge_32 : decode cX5_edge 32 = .ok (.aload_n 0, 1) := by decide +kernel
theorem dX5_edge_33 : decode cX5_edge 33 = .ok (.getfield 12, 3) := by decide +kernel
theorem dX5_edge_36 : decode cX5_edge 36 = .ok (.iload_n 1, 1) := by decide +kernel
theorem dX5_edge_37 : decode cX5_edge 37 = .ok (.iload 6, 2) := by decide +kernel
theorem dX5_edge_39 : decode cX5_edge 39 = .ok (.iload 5, 2) := by decide +kernel
theorem dX5_edge_41 : decode cX5_edge 41 = .ok (.invokevirtual 81, 3) := by decide +kernel
theorem dX5_edge_44 : decode cX5_edge 44 = .ok (.aload_n 0, 1) := by decide +kernel
theorem dX5_edge_45 : decode cX5_edge 45 = .ok (.getfield 40, 3) := by decide +kernel
theorem dX5_edge_48 : decode cX5_edge 48 = .ok (.iconst 0, 1) := by decide +kernel
theorem dX5_edge_49 : decode cX5_edge 49 = .ok (.putfield 63, 3) := by decide +kernel
theorem dX5_edge_52 : decode cX5_edge 52 = .ok (.iconst 1, 1) := by decide +kernel
theorem dX5_edge_53 : decode cX5_edge 53 = .ok (.ireturn, 1) := by decide +kernel
theorem dX5_clear_0 : decode cX5_clear 0 = .ok (.aload_n 0, 1) := by decide +kernel
theorem dX5_clear_1 : decode cX5_clear 1 = .ok (.getfield 12, 3) := by decide +kernel
theorem dX5_clear_4 : decode cX5_clear 4 = .ok (.invokevirtual 84, 3) := by decide +kernel
theorem dX5_clear_7 : decode cX5_clear 7 = .ok (.aload_n 0, 1) := by decide +kernel
theorem dX5_clear_8 : decode cX5_clear 8 = .ok (.getfield 40, 3) := by decide +kernel
theorem dX5_clear_11 : decode cX5_clear 11 = .ok (.iconst 0, 1) := by decide +kernel
theorem dX5_clear_12 : decode cX5_clear 12 = .ok (.putfield 63, 3) := by decide +kernel
theorem dX5_clear_15 : decode cX5_clear 15 = .ok (.return_, 1) := by decide +kernel
theorem dX5_lay_0 : decode cX5_lay 0 = .ok (.iload_n 1, 1) := by decide +kernel
theorem dX5_lay_1 : decode cX5_lay 1 = .ok (.invokestatic 87, 3) := by decide +kernel
theorem dX5_lay_4 : decode cX5_lay 4 = .ok (.ifCond .eq 14, 3) := by decide +kernel
theorem dX5_lay_7 : decode cX5_lay 7 = .ok (.iconst 3, 1) := by decide +kernel
theorem dX5_lay_8 : decode cX5_lay 8 = .ok (.iload_n 2, 1) := by decide +kernel
theorem dX5_lay_9 : decode cX5_lay 9 = .ok (.iload_n 3, 1) := by decide +kernel
theorem dX5_lay_10 : decode cX5_lay 10 = .ok (.iload 4, 2) := by decide +kernel
theorem dX5_lay_12 : decode cX5_lay 12 = .ok (.invokestatic 90, 3) := by decide +kernel
theorem dX5_lay_15 : decode cX5_lay 15 = .ok (.ifCond .ne 5, 3) := by decide +kernel
theorem dX5_lay_18 : decode cX5_lay 18 = .ok (.iconst 0, 1) := by decide +kernel
theorem dX5_lay_19 : decode cX5_lay 19 = .ok (.ireturn, 1) := by decide +kernel
theorem dX5_lay_20 : decode cX5_lay 20 = .ok (.iload_n 1, 1) := by decide +kernel
theorem dX5_lay_21 : decode cX5_lay 21 = .ok (.iconst 1, 1) := by decide +kernel
theorem dX5_lay_22 : decode cX5_lay 22 = .ok (.if_icmp .ne 15, 3) := by decide +kernel
theorem dX5_lay_25 : decode cX5_lay 25 = .ok (.iload_n 2, 1) := by decide +kernel
theorem dX5_lay_26 : decode cX5_lay 26 = .ok (.iload_n 3, 1) := by decide +kernel
theorem dX5_lay_27 : decode cX5_lay 27 = .ok (.iload 4, 2) := by decide +kernel
theorem dX5_lay_29 : decode cX5_lay 29 = .ok (.invokestatic 94, 3) := by decide +kernel
theorem dX5_lay_32 : decode cX5_lay 32 = .ok (.ifCond .eq 5, 3) := by decide +kernel
theorem dX5_lay_35 : decode cX5_lay 35 = .ok (.iconst 0, 1) := by decide +kernel
theorem dX5_lay_36 : decode cX5_lay 36 = .ok (.ireturn, 1) := by decide +kernel
theorem dX5_lay_37 : decode cX5_lay 37 = .ok (.aload_n 0, 1) := by decide +kernel
theorem dX5_lay_38 : decode cX5_lay 38 = .ok (.getfield 19, 3) := by decide +kernel
theorem dX5_lay_41 : decode cX5_lay 41 = .ok (.iload_n 1, 1) := by decide +kernel
theorem dX5_lay_42 : decode cX5_lay 42 = .ok (.iload_n 2, 1) := by decide +kernel
theorem dX5_lay_43 : decode cX5_lay 43 = .ok (.iload_n 3, 1) := by decide +kernel
theorem dX5_lay_44 : decode cX5_lay 44 = .ok (.iload 4, 2) := by decide +kernel
theorem dX5_lay_46 : decode cX5_lay 46 = .ok (.invokevirtual 97, 3) := by decide +kernel
theorem dX5_lay_49 : decode cX5_lay 49 = .ok (.aload_n 0, 1) := by decide +kernel
theorem dX5_lay_50 : decode cX5_lay 50 = .ok (.invokevirtual 52, 3) := by decide +kernel
theorem dX5_lay_53 : decode cX5_lay 53 = .ok (.iconst 1, 1) := by decide +kernel
theorem dX5_lay_54 : decode cX5_lay 54 = .ok (.ireturn, 1) := by decide +kernel
theorem dX5_fold_0 : decode cX5_fold 0 = .ok (.iload_n 1, 1) := by decide +kernel
theorem dX5_fold_1 : decode cX5_fold 1 = .ok (.iconst 1, 1) := by decide +kernel
theorem dX5_fold_2 : decode cX5_fold 2 = .ok (.if_icmp .lt 9, 3) := by decide +kernel
theorem dX5_fold_5 : decode cX5_fold 5 = .ok (.iload_n 1, 1) := by decide +kernel
theorem dX5_fold_6 : decode cX5_fold 6 = .ok (.bipush 8, 2) := by decide +kernel
theorem dX5_fold_8 : decode cX5_fold 8 = .ok (.if_icmp .le 5, 3) := by decide +kernel
theorem dX5_fold_11 : decode cX5_fold 11 = .ok (.iconst 0, 1) := by decide +kernel
theorem dX5_fold_12 : decode cX5_fold 12 = .ok (.ireturn, 1) := by decide +kernel
theorem dX5_fold_13 : decode cX5_fold 13 = .ok (.aload_n 0, 1) := by decide +kernel
theorem dX5_fold_14 : decode cX5_fold 14 = .ok (.getfield 19, 3) := by decide +kernel
theorem dX5_fold_17 : decode cX5_fold 17 = .ok (.iload_n 1, 1) := by decide +kernel
theorem dX5_fold_18 : decode cX5_fold 18 = .ok (.putfield 100, 3) := by decide +kernel
theorem dX5_fold_21 : decode cX5_fold 21 = .ok (.aload_n 0, 1) := by decide +kernel
theorem dX5_fold_22 : decode cX5_fold 22 = .ok (.invokevirtual 52, 3) := by decide +kernel
theorem dX5_fold_25 : decode cX5_fold 25 = .ok (.iconst 1, 1) := by decide +kernel
theorem dX5_fold_26 : decode cX5_fold 26 = .ok (.ireturn, 1) := by decide +kernel
theorem dX5_why_0 : decode cX5_why 0 = .ok (.aload_n 0, 1) := by decide +kernel
theorem dX5_why_1 : decode cX5_why 1 = .ok (.invokevirtual 103, 3) := by decide +kernel
theorem dX5_why_4 : decode cX5_why 4 = .ok (.istore_n 2, 1) := by decide +kernel
theorem dX5_why_5 : decode cX5_why 5 = .ok (.iload_n 1, 1) := by decide +kernel
theorem dX5_why_6 : decode cX5_why 6 = .ok (.tableswitch 51 0 2 #[26, 28, 34], 26) := by decide +kernel
theorem dX5_why_32 : decode cX5_why 32 = .ok (.iload_n 2, 1) := by decide +kernel
theorem dX5_why_33 : decode cX5_why 33 = .ok (.ireturn, 1) := by decide +kernel
theorem dX5_why_34 : decode cX5_why 34 = .ok (.aload_n 0, 1) := by decide +kernel
theorem dX5_why_35 : decode cX5_why 35 = .ok (.iload_n 2, 1) := by decide +kernel
theorem dX5_why_36 : decode cX5_why 36 = .ok (.invokevirtual 107, 3) := by decide +kernel
theorem dX5_why_39 : decode cX5_why 39 = .ok (.ireturn, 1) := by decide +kernel
theorem dX5_why_40 : decode cX5_why 40 = .ok (.iload_n 2, 1) := by decide +kernel
theorem dX5_why_41 : decode cX5_why 41 = .ok (.iconst 3, 1) := by decide +kernel
theorem dX5_why_42 : decode cX5_why 42 = .ok (.if_icmp .ne 13, 3) := by decide +kernel
theorem dX5_why_45 : decode cX5_why 45 = .ok (.aload_n 0, 1) := by decide +kernel
theorem dX5_why_46 : decode cX5_why 46 = .ok (.getfield 26, 3) := by decide +kernel
theorem dX5_why_49 : decode cX5_why 49 = .ok (.getfield 111, 3) := by decide +kernel
theorem dX5_why_52 : decode cX5_why 52 = .ok (.goto 4, 3) := by decide +kernel
theorem dX5_why_55 : decode cX5_why 55 = .ok (.iconst (-1), 1) := by decide +kernel
theorem dX5_why_56 : decode cX5_why 56 = .ok (.ireturn, 1) := by decide +kernel
theorem dX5_why_57 : decode cX5_why 57 = .ok (.iconst (-1), 1) := by decide +kernel
theorem dX5_why_58 : decode cX5_why 58 = .ok (.ireturn, 1) := by decide +kernel
theorem dX5_laid_0 : decode cX5_laid 0 = .ok (.aload_n 0, 1) := by decide +kernel
theorem dX5_laid_1 : decode cX5_laid 1 = .ok (.invokevirtual 114, 3) := by decide +kernel
theorem dX5_laid_4 : decode cX5_laid 4 = .ok (.iload_n 1, 1) := by decide +kernel
theorem dX5_laid_5 : decode cX5_laid 5 = .ok (.tableswitch 71 0 3 #[31, 39, 47, 59], 31) := by decide +kernel
theorem dX5_laid_36 : decode cX5_laid 36 = .ok (.aload_n 0, 1) := by decide +kernel
theorem dX5_laid_37 : decode cX5_laid 37 = .ok (.getfield 26, 3) := by decide +kernel
theorem dX5_laid_40 : decode cX5_laid 40 = .ok (.getfield 117, 3) := by decide +kernel
theorem dX5_laid_43 : decode cX5_laid 43 = .ok (.ireturn, 1) := by decide +kernel
theorem dX5_laid_44 : decode cX5_laid 44 = .ok (.aload_n 0, 1) := by decide +kernel
theorem dX5_laid_45 : decode cX5_laid 45 = .ok (.getfield 26, 3) := by decide +kernel
theorem dX5_laid_48 : decode cX5_laid 48 = .ok (.getfield 120, 3) := by decide +kernel
theorem dX5_laid_51 : decode cX5_laid 51 = .ok (.ireturn, 1) := by decide +kernel
theorem dX5_laid_52 : decode cX5_laid 52 = .ok (.aload_n 0, 1) := by decide +kernel
theorem dX5_laid_53 : decode cX5_laid 53 = .ok (.getfield 26, 3) := by decide +kernel
theorem dX5_laid_56 : decode cX5_laid 56 = .ok (.aload_n 0, 1) := by decide +kernel
theorem dX5_laid_57 : decode cX5_laid 57 = .ok (.getfield 12, 3) := by decide +kernel
theorem dX5_laid_60 : decode cX5_laid 60 = .ok (.invokevirtual 123, 3) := by decide +kernel
theorem dX5_laid_63 : decode cX5_laid 63 = .ok (.ireturn, 1) := by decide +kernel
theorem dX5_laid_64 : decode cX5_laid 64 = .ok (.aload_n 0, 1) := by decide +kernel
theorem dX5_laid_65 : decode cX5_laid 65 = .ok (.getfield 26, 3) := by decide +kernel
theorem dX5_laid_68 : decode cX5_laid 68 = .ok (.aload_n 0, 1) := by decide +kernel
theorem dX5_laid_69 : decode cX5_laid 69 = .ok (.getfield 12, 3) := by decide +kernel
theorem dX5_laid_72 : decode cX5_laid 72 = .ok (.invokevirtual 127, 3) := by decide +kernel
theorem dX5_laid_75 : decode cX5_laid 75 = .ok (.ireturn, 1) := by decide +kernel
theorem dX5_laid_76 : decode cX5_laid 76 = .ok (.iconst (-1), 1) := by decide +kernel
theorem dX5_laid_77 : decode cX5_laid 77 = .ok (.ireturn, 1) := by decide +kernel
theorem dX5_where_0 : decode cX5_where 0 = .ok (.aload_n 0, 1) := by decide +kernel
theorem dX5_where_1 : decode cX5_where 1 = .ok (.getfield 12, 3) := by decide +kernel
theorem dX5_where_4 : decode cX5_where 4 = .ok (.iload_n 1, 1) := by decide +kernel
theorem dX5_where_5 : decode cX5_where 5 = .ok (.iload_n 2, 1) := by decide +kernel
theorem dX5_where_6 : decode cX5_where 6 = .ok (.iload_n 3, 1) := by decide +kernel
theorem dX5_where_7 : decode cX5_where 7 = .ok (.invokevirtual 78, 3) := by decide +kernel
theorem dX5_where_10 : decode cX5_where 10 = .ok (.istore 5, 2) := by decide +kernel
theorem dX5_where_12 : decode cX5_where 12 = .ok (.iload 5, 2) := by decide +kernel
theorem dX5_where_14 : decode cX5_where 14 = .ok (.iconst (-1), 1) := by decide +kernel
theorem dX5_where_15 : decode cX5_where 15 = .ok (.if_icmp .ne 5, 3) := by decide +kernel
theorem dX5_where_18 : decode cX5_where 18 = .ok (.iconst (-1), 1) := by decide +kernel
theorem dX5_where_19 : decode cX5_where 19 = .ok (.ireturn, 1) := by decide +kernel
theorem dX5_where_20 : decode cX5_where 20 = .ok (.aload_n 0, 1) := by decide +kernel
theorem dX5_where_21 : decode cX5_where 21 = .ok (.invokevirtual 114, 3) := by decide +kernel
theorem dX5_where_24 : decode cX5_where 24 = .ok (.iload 4, 2) := by decide +kernel
theorem dX5_where_26 : decode cX5_where 26 = .ok (.tableswitch 59 0 2 #[26, 37, 48], 26) := by decide +kernel
theorem dX5_where_52 : decode cX5_where 52 = .ok (.aload_n 0, 1) := by decide +kernel
theorem dX5_where_53 : decode cX5_where 53 = .ok (.getfield 26, 3) := by decide +kernel
theorem dX5_where_56 : decode cX5_where 56 = .ok (.getfield 130, 3) := by decide +kernel
theorem dX5_where_59 : decode cX5_where 59 = .ok (.iload 5, 2) := by decide +kernel
theorem dX5_where_61 : decode cX5_where 61 = .ok (.iaload, 1) := by decide +kernel
theorem dX5_where_62 : decode cX5_where 62 = .ok (.ireturn, 1) := by decide +kernel
theorem dX5_where_63 : decode cX5_where 63 = .ok (.aload_n 0, 1) := by decide +kernel
theorem dX5_where_64 : decode cX5_where 64 = .ok (.getfield 26, 3) := by decide +kernel
theorem dX5_where_67 : decode cX5_where 67 = .ok (.getfield 134, 3) := by decide +kernel
theorem dX5_where_70 : decode cX5_where 70 = .ok (.iload 5, 2) := by decide +kernel
theorem dX5_where_72 : decode cX5_where 72 = .ok (.iaload, 1) := by decide +kernel
theorem dX5_where_73 : decode cX5_where 73 = .ok (.ireturn, 1) := by decide +kernel
theorem dX5_where_74 : decode cX5_where 74 = .ok (.aload_n 0, 1) := by decide +kernel
theorem dX5_where_75 : decode cX5_where 75 = .ok (.getfield 26, 3) := by decide +kernel
theorem dX5_where_78 : decode cX5_where 78 = .ok (.getfield 137, 3) := by decide +kernel
theorem dX5_where_81 : decode cX5_where 81 = .ok (.iload 5, 2) := by decide +kernel
theorem dX5_where_83 : decode cX5_where 83 = .ok (.iaload, 1) := by decide +kernel
theorem dX5_where_84 : decode cX5_where 84 = .ok (.ireturn, 1) := by decide +kernel
theorem dX5_where_85 : decode cX5_where 85 = .ok (.iconst (-1), 1) := by decide +kernel
theorem dX5_where_86 : decode cX5_where 86 = .ok (.ireturn, 1) := by decide +kernel
theorem dX5_needs_0 : decode cX5_needs 0 = .ok (.aload_n 0, 1) := by decide +kernel
theorem dX5_needs_1 : decode cX5_needs 1 = .ok (.getfield 12, 3) := by decide +kernel
theorem dX5_needs_4 : decode cX5_needs 4 = .ok (.iload_n 1, 1) := by decide +kernel
theorem dX5_needs_5 : decode cX5_needs 5 = .ok (.invokevirtual 71, 3) := by decide +kernel
theorem dX5_needs_8 : decode cX5_needs 8 = .ok (.ifCond .ne 7, 3) := by decide +kernel
theorem dX5_needs_11 : decode cX5_needs 11 = .ok (.sipush (-1000), 3) := by decide +kernel
theorem dX5_needs_14 : decode cX5_needs 14 = .ok (.ireturn, 1) := by decide +kernel
theorem dX5_needs_15 : decode cX5_needs 15 = .ok (.iload_n 2, 1) := by decide +kernel
theorem dX5_needs_16 : decode cX5_needs 16 = .ok (.tableswitch 71 0 2 #[28, 41, 54], 28) := by decide +kernel
theorem dX5_needs_44 : decode cX5_needs 44 = .ok (.aload_n 0, 1) := by decide +kernel
theorem dX5_needs_45 : decode cX5_needs 45 = .ok (.getfield 19, 3) := by decide +kernel
theorem dX5_needs_48 : decode cX5_needs 48 = .ok (.aload_n 0, 1) := by decide +kernel
theorem dX5_needs_49 : decode cX5_needs 49 = .ok (.getfield 12, 3) := by decide +kernel
theorem dX5_needs_52 : decode cX5_needs 52 = .ok (.iload_n 1, 1) := by decide +kernel
theorem dX5_needs_53 : decode cX5_needs 53 = .ok (.invokevirtual 140, 3) := by decide +kernel
theorem dX5_needs_56 : decode cX5_needs 56 = .ok (.ireturn, 1) := by decide +kernel
theorem dX5_needs_57 : decode cX5_needs 57 = .ok (.aload_n 0, 1) := by decide +kernel
theorem dX5_needs_58 : decode cX5_needs 58 = .ok (.getfield 19, 3) := by decide +kernel
theorem dX5_needs_61 : decode cX5_needs 61 = .ok (.aload_n 0, 1) := by decide +kernel
theorem dX5_needs_62 : decode cX5_needs 62 = .ok (.getfield 12, 3) := by decide +kernel
theorem dX5_needs_65 : decode cX5_needs 65 = .ok (.iload_n 1, 1) := by decide +kernel
theorem dX5_needs_66 : decode cX5_needs 66 = .ok (.invokevirtual 144, 3) := by decide +kernel
theorem dX5_needs_69 : decode cX5_needs 69 = .ok (.ireturn, 1) := by decide +kernel
theorem dX5_needs_70 : decode cX5_needs 70 = .ok (.aload_n 0, 1) := by decide +kernel
theorem dX5_needs_71 : decode cX5_needs 71 = .ok (.getfield 12, 3) := by decide +kernel
theorem dX5_needs_74 : decode cX5_needs 74 = .ok (.iload_n 1, 1) := by decide +kernel
theorem dX5_needs_75 : decode cX5_needs 75 = .ok (.invokevirtual 147, 3) := by decide +kernel
theorem dX5_needs_78 : decode cX5_needs 78 = .ok (.ifCond .eq 7, 3) := by decide +kernel
theorem dX5_needs_81 : decode cX5_needs 81 = .ok (.iconst 1, 1) := by decide +kernel
theorem dX5_needs_82 : decode cX5_needs 82 = .ok (.goto 4, 3) := by decide +kernel
theorem dX5_needs_85 : decode cX5_needs 85 = .ok (.iconst 0, 1) := by decide +kernel
theorem dX5_needs_86 : decode cX5_needs 86 = .ok (.ireturn, 1) := by decide +kernel
theorem dX5_needs_87 : decode cX5_needs 87 = .ok (.sipush (-1000), 3) := by decide +kernel
theorem dX5_needs_90 : decode cX5_needs 90 = .ok (.ireturn, 1) := by decide +kernel
theorem dX5_best_0 : decode cX5_best 0 = .ok (.iload_n 1, 1) := by decide +kernel
theorem dX5_best_1 : decode cX5_best 1 = .ok (.iconst 1, 1) := by decide +kernel
theorem dX5_best_2 : decode cX5_best 2 = .ok (.if_icmp .ne 17, 3) := by decide +kernel
theorem dX5_best_5 : decode cX5_best 5 = .ok (.iload_n 2, 1) := by decide +kernel
theorem dX5_best_6 : decode cX5_best 6 = .ok (.iconst 1, 1) := by decide +kernel
theorem dX5_best_7 : decode cX5_best 7 = .ok (.if_icmp .eq 8, 3) := by decide +kernel
theorem dX5_best_10 : decode cX5_best 10 = .ok (.iload_n 2, 1) := by decide +kernel
theorem dX5_best_11 : decode cX5_best 11 = .ok (.iconst 2, 1) := by decide +kernel
theorem dX5_best_12 : decode cX5_best 12 = .ok (.if_icmp .ne 7, 3) := by decide +kernel
theorem dX5_best_15 : decode cX5_best 15 = .ok (.iconst 1, 1) := by decide +kernel
theorem dX5_best_16 : decode cX5_best 16 = .ok (.goto 4, 3) := by decide +kernel
theorem dX5_best_19 : decode cX5_best 19 = .ok (.iconst 0, 1) := by decide +kernel
theorem dX5_best_20 : decode cX5_best 20 = .ok (.istore_n 3, 1) := by decide +kernel
theorem dX5_best_21 : decode cX5_best 21 = .ok (.iload_n 1, 1) := by decide +kernel
theorem dX5_best_22 : decode cX5_best 22 = .ok (.iconst 2, 1) := by decide +kernel
theorem dX5_best_23 : decode cX5_best 23 = .ok (.if_icmp .ne 12, 3) := by decide +kernel
theorem dX5_best_26 : decode cX5_best 26 = .ok (.iload_n 2, 1) := by decide +kernel
theorem dX5_best_27 : decode cX5_best 27 = .ok (.iconst 1, 1) := by decide +kernel
theorem dX5_best_28 : decode cX5_best 28 = .ok (.if_icmp .ne 7, 3) := by decide +kernel
theorem dX5_best_31 : decode cX5_best 31 = .ok (.iconst 1, 1) := by decide +kernel
theorem dX5_best_32 : decode cX5_best 32 = .ok (.goto 4, 3) := by decide +kernel
theorem dX5_best_35 : decode cX5_best 35 = .ok (.iconst 0, 1) := by decide +kernel
theorem dX5_best_36 : decode cX5_best 36 = .ok (.istore 4, 2) := by decide +kernel
theorem dX5_best_38 : decode cX5_best 38 = .ok (.iload_n 3, 1) := by decide +kernel
theorem dX5_best_39 : decode cX5_best 39 = .ok (.ifCond .ne 10, 3) := by decide +kernel
theorem dX5_best_42 : decode cX5_best 42 = .ok (.iload 4, 2) := by decide +kernel
theorem dX5_best_44 : decode cX5_best 44 = .ok (.ifCond .ne 5, 3) := by decide +kernel
theorem dX5_best_47 : decode cX5_best 47 = .ok (.iconst (-1), 1) := by decide +kernel
theorem dX5_best_48 : decode cX5_best 48 = .ok (.ireturn, 1) := by decide +kernel
theorem dX5_best_49 : decode cX5_best 49 = .ok (.aload_n 0, 1) := by decide +kernel
theorem dX5_best_50 : decode cX5_best 50 = .ok (.getfield 33, 3) := by decide +kernel
theorem dX5_best_53 : decode cX5_best 53 = .ok (.aload_n 0, 1) := by decide +kernel
theorem dX5_best_54 : decode cX5_best 54 = .ok (.getfield 12, 3) := by decide +kernel
theorem dX5_best_57 : decode cX5_best 57 = .ok (.iload_n 1, 1) := by decide +kernel
theorem dX5_best_58 : decode cX5_best 58 = .ok (.iload_n 2, 1) := by decide +kernel
theorem dX5_best_59 : decode cX5_best 59 = .ok (.invokevirtual 150, 3) := by decide +kernel
theorem dX5_best_62 : decode cX5_best 62 = .ok (.ifCond .ne 5, 3) := by decide +kernel
theorem dX5_best_65 : decode cX5_best 65 = .ok (.iconst (-1), 1) := by decide +kernel
theorem dX5_best_66 : decode cX5_best 66 = .ok (.ireturn, 1) := by decide +kernel
theorem dX5_best_67 : decode cX5_best 67 = .ok (.aload_n 0, 1) := by decide +kernel
theorem dX5_best_68 : decode cX5_best 68 = .ok (.getfield 19, 3) := by decide +kernel
theorem dX5_best_71 : decode cX5_best 71 = .ok (.aload_n 0, 1) := by decide +kernel
theorem dX5_best_72 : decode cX5_best 72 = .ok (.getfield 33, 3) := by decide +kernel
theorem dX5_best_75 : decode cX5_best 75 = .ok (.getfield 154, 3) := by decide +kernel
theorem dX5_best_78 : decode cX5_best 78 = .ok (.invokevirtual 157, 3) := by decide +kernel
theorem dX5_best_81 : decode cX5_best 81 = .ok (.aload_n 0, 1) := by decide +kernel
theorem dX5_best_82 : decode cX5_best 82 = .ok (.invokevirtual 52, 3) := by decide +kernel
theorem dX5_best_85 : decode cX5_best 85 = .ok (.aload_n 0, 1) := by decide +kernel
theorem dX5_best_86 : decode cX5_best 86 = .ok (.invokevirtual 114, 3) := by decide +kernel
theorem dX5_best_89 : decode cX5_best 89 = .ok (.aload_n 0, 1) := by decide +kernel
theorem dX5_best_90 : decode cX5_best 90 = .ok (.getfield 26, 3) := by decide +kernel
theorem dX5_best_93 : decode cX5_best 93 = .ok (.getfield 117, 3) := by decide +kernel
theorem dX5_best_96 : decode cX5_best 96 = .ok (.ireturn, 1) := by decide +kernel
theorem dX5_laying_0 : decode cX5_laying 0 = .ok (.iload_n 1, 1) := by decide +kernel
theorem dX5_laying_1 : decode cX5_laying 1 = .ok (.invokestatic 87, 3) := by decide +kernel
theorem dX5_laying_4 : decode cX5_laying 4 = .ok (.ifCond .eq 26, 3) := by decide +kernel
theorem dX5_laying_7 : decode cX5_laying 7 = .ok (.iload_n 2, 1) := by decide +kernel
theorem dX5_laying_8 : decode cX5_laying 8 = .ok (.invokestatic 87, 3) := by decide +kernel
theorem dX5_laying_11 : decode cX5_laying 11 = .ok (.ifCond .eq 19, 3) := by decide +kernel
theorem dX5_laying_14 : decode cX5_laying 14 = .ok (.aload_n 0, 1) := by decide +kernel
theorem dX5_laying_15 : decode cX5_laying 15 = .ok (.getfield 19, 3) := by decide +kernel
theorem dX5_laying_18 : decode cX5_laying 18 = .ok (.getfield 161, 3) := by decide +kernel
theorem dX5_laying_21 : decode cX5_laying 21 = .ok (.iconst 3, 1) := by decide +kernel
theorem dX5_laying_22 : decode cX5_laying 22 = .ok (.iload_n 1, 1) := by decide +kernel
theorem dX5_laying_23 : decode cX5_laying 23 = .ok (.imul, 1) := by decide +kernel
theorem dX5_laying_24 : decode cX5_laying 24 = .ok (.iload_n 2, 1) := by decide +kernel
theorem dX5_laying_25 : decode cX5_laying 25 = .ok (.iadd, 1) := by decide +kernel
theorem dX5_laying_26 : decode cX5_laying 26 = .ok (.iaload, 1) := by decide +kernel
theorem dX5_laying_27 : decode cX5_laying 27 = .ok (.goto 6, 3) := by decide +kernel
theorem dX5_laying_30 : decode cX5_laying 30 = .ok (.sipush (-1000), 3) := by decide +kernel
theorem dX5_laying_33 : decode cX5_laying 33 = .ok (.ireturn, 1) := by decide +kernel
theorem dX5_run_0 : decode cX5_run 0 = .ok (.aload_n 0, 1) := by decide +kernel
theorem dX5_run_1 : decode cX5_run 1 = .ok (.invokevirtual 103, 3) := by decide +kernel
theorem dX5_run_4 : decode cX5_run 4 = .ok (.ifCond .eq 5, 3) := by decide +kernel
theorem dX5_run_7 : decode cX5_run 7 = .ok (.iconst (-1), 1) := by decide +kernel
theorem dX5_run_8 : decode cX5_run 8 = .ok (.ireturn, 1) := by decide +kernel
theorem dX5_run_9 : decode cX5_run 9 = .ok (.aload_n 0, 1) := by decide +kernel
theorem dX5_run_10 : decode cX5_run 10 = .ok (.getfield 40, 3) := by decide +kernel
theorem dX5_run_13 : decode cX5_run 13 = .ok (.aload_n 0, 1) := by decide +kernel
theorem dX5_run_14 : decode cX5_run 14 = .ok (.getfield 12, 3) := by decide +kernel
theorem dX5_run_17 : decode cX5_run 17 = .ok (.aload_n 0, 1) := by decide +kernel
theorem dX5_run_18 : decode cX5_run 18 = .ok (.getfield 26, 3) := by decide +kernel
theorem dX5_run_21 : decode cX5_run 21 = .ok (.invokevirtual 164, 3) := by decide +kernel
theorem dX5_run_24 : decode cX5_run 24 = .ok (.ireturn, 1) := by decide +kernel
theorem dX5_worked_0 : decode cX5_worked 0 = .ok (.aload_n 0, 1) := by decide +kernel
theorem dX5_worked_1 : decode cX5_worked 1 = .ok (.getfield 40, 3) := by decide +kernel
theorem dX5_worked_4 : decode cX5_worked 4 = .ok (.iload_n 1, 1) := by decide +kernel
theorem dX5_worked_5 : decode cX5_worked 5 = .ok (.invokevirtual 168, 3) := by decide +kernel
theorem dX5_worked_8 : decode cX5_worked 8 = .ok (.ifCond .eq 20, 3) := by decide +kernel
theorem dX5_worked_11 : decode cX5_worked 11 = .ok (.aload_n 0, 1) := by decide +kernel
theorem dX5_worked_12 : decode cX5_worked 12 = .ok (.getfield 40, 3) := by decide +kernel
theorem dX5_worked_15 : decode cX5_worked 15 = .ok (.aload_n 0, 1) := by decide +kernel
theorem dX5_worked_16 : decode cX5_worked 16 = .ok (.getfield 26, 3) := by decide +kernel
theorem dX5_worked_19 : decode cX5_worked 19 = .ok (.iload_n 1, 1) := by decide +kernel
theorem dX5_worked_20 : decode cX5_worked 20 = .ok (.iload_n 2, 1) := by decide +kernel
theorem dX5_worked_21 : decode cX5_worked 21 = .ok (.iload_n 3, 1) := by decide +kernel
theorem dX5_worked_22 : decode cX5_worked 22 = .ok (.invokevirtual 171, 3) := by decide +kernel
theorem dX5_worked_25 : decode cX5_worked 25 = .ok (.goto 4, 3) := by decide +kernel
theorem dX5_worked_28 : decode cX5_worked 28 = .ok (.iconst (-1), 1) := by decide +kernel
theorem dX5_worked_29 : decode cX5_worked 29 = .ok (.ireturn, 1) := by decide +kernel
theorem dX5_held_0 : decode cX5_held 0 = .ok (.aload_n 0, 1) := by decide +kernel
theorem dX5_held_1 : decode cX5_held 1 = .ok (.getfield 40, 3) := by decide +kernel
theorem dX5_held_4 : decode cX5_held 4 = .ok (.iload_n 1, 1) := by decide +kernel
theorem dX5_held_5 : decode cX5_held 5 = .ok (.invokevirtual 168, 3) := by decide +kernel
theorem dX5_held_8 : decode cX5_held 8 = .ok (.ifCond .eq 15, 3) := by decide +kernel
theorem dX5_held_11 : decode cX5_held 11 = .ok (.aload_n 0, 1) := by decide +kernel
theorem dX5_held_12 : decode cX5_held 12 = .ok (.getfield 40, 3) := by decide +kernel
theorem dX5_held_15 : decode cX5_held 15 = .ok (.getfield 175, 3) := by decide +kernel
theorem dX5_held_18 : decode cX5_held 18 = .ok (.iload_n 1, 1) := by decide +kernel
theorem dX5_held_19 : decode cX5_held 19 = .ok (.iaload, 1) := by decide +kernel
theorem dX5_held_20 : decode cX5_held 20 = .ok (.goto 4, 3) := by decide +kernel
theorem dX5_held_23 : decode cX5_held 23 = .ok (.iconst (-1), 1) := by decide +kernel
theorem dX5_held_24 : decode cX5_held 24 = .ok (.ireturn, 1) := by decide +kernel
theorem dX5_value_0 : decode cX5_value 0 = .ok (.aload_n 0, 1) := by decide +kernel
theorem dX5_value_1 : decode cX5_value 1 = .ok (.getfield 12, 3) := by decide +kernel
theorem dX5_value_4 : decode cX5_value 4 = .ok (.iload_n 2, 1) := by decide +kernel
theorem dX5_value_5 : decode cX5_value 5 = .ok (.iload_n 3, 1) := by decide +kernel
theorem dX5_value_6 : decode cX5_value 6 = .ok (.iload 4, 2) := by decide +kernel
theorem dX5_value_8 : decode cX5_value 8 = .ok (.invokevirtual 78, 3) := by decide +kernel
theorem dX5_value_11 : decode cX5_value 11 = .ok (.istore 5, 2) := by decide +kernel
theorem dX5_value_13 : decode cX5_value 13 = .ok (.aload_n 0, 1) := by decide +kernel
theorem dX5_value_14 : decode cX5_value 14 = .ok (.getfield 40, 3) := by decide +kernel
theorem dX5_value_17 : decode cX5_value 17 = .ok (.getfield 63, 3) := by decide +kernel
theorem dX5_value_20 : decode cX5_value 20 = .ok (.ifCond .eq 20, 3) := by decide +kernel
theorem dX5_value_23 : decode cX5_value 23 = .ok (.aload_n 0, 1) := by decide +kernel
theorem dX5_value_24 : decode cX5_value 24 = .ok (.getfield 12, 3) := by decide +kernel
theorem dX5_value_27 : decode cX5_value 27 = .ok (.iload_n 1, 1) := by decide +kernel
theorem dX5_value_28 : decode cX5_value 28 = .ok (.invokevirtual 71, 3) := by decide +kernel
theorem dX5_value_31 : decode cX5_value 31 = .ok (.ifCond .eq 9, 3) := by decide +kernel
theorem dX5_value_34 : decode cX5_value 34 = .ok (.iload 5, 2) := by decide +kernel
theorem dX5_value_36 : decode cX5_value 36 = .ok (.iconst (-1), 1) := by decide +kernel
theorem dX5_value_37 : decode cX5_value 37 = .ok (.if_icmp .ne 5, 3) := by decide +kernel
theorem dX5_value_40 : decode cX5_value 40 = .ok (.iconst 0, 1) := by decide +kernel
theorem dX5_value_41 : decode cX5_value 41 = .ok (.ireturn, 1) := by decide +kernel
theorem dX5_value_42 : decode cX5_value 42 = .ok (.aload_n 0, 1) := by decide +kernel
theorem dX5_value_43 : decode cX5_value 43 = .ok (.getfield 40, 3) := by decide +kernel
theorem dX5_value_46 : decode cX5_value 46 = .ok (.getfield 178, 3) := by decide +kernel
theorem dX5_value_49 : decode cX5_value 49 = .ok (.iload_n 1, 1) := by decide +kernel
theorem dX5_value_50 : decode cX5_value 50 = .ok (.sipush 512, 3) := by decide +kernel
theorem dX5_value_53 : decode cX5_value 53 = .ok (.imul, 1) := by decide +kernel
theorem dX5_value_54 : decode cX5_value 54 = .ok (.iload 5, 2) := by decide +kernel
theorem dX5_value_56 : decode cX5_value 56 = .ok (.iadd, 1) := by decide +kernel
theorem dX5_value_57 : decode cX5_value 57 = .ok (.iaload, 1) := by decide +kernel
theorem dX5_value_58 : decode cX5_value 58 = .ok (.ireturn, 1) := by decide +kernel
theorem dX5_plain_0 : decode cX5_plain 0 = .ok (.aload_n 0, 1) := by decide +kernel
theorem dX5_plain_1 : decode cX5_plain 1 = .ok (.getfield 12, 3) := by decide +kernel
theorem dX5_plain_4 : decode cX5_plain 4 = .ok (.iload_n 2, 1) := by decide +kernel
theorem dX5_plain_5 : decode cX5_plain 5 = .ok (.iload_n 3, 1) := by decide +kernel
theorem dX5_plain_6 : decode cX5_plain 6 = .ok (.iload 4, 2) := by decide +kernel
theorem dX5_plain_8 : decode cX5_plain 8 = .ok (.invokevirtual 78, 3) := by decide +kernel
theorem dX5_plain_11 : decode cX5_plain 11 = .ok (.istore 5, 2) := by decide +kernel
theorem dX5_plain_13 : decode cX5_plain 13 = .ok (.aload_n 0, 1) := by decide +kernel
theorem dX5_plain_14 : decode cX5_plain 14 = .ok (.getfield 12, 3) := by decide +kernel
theorem dX5_plain_17 : decode cX5_plain 17 = .ok (.iload_n 1, 1) := by decide +kernel
theorem dX5_plain_18 : decode cX5_plain 18 = .ok (.invokevirtual 71, 3) := by decide +kernel
theorem dX5_plain_21 : decode cX5_plain 21 = .ok (.ifCond .eq 9, 3) := by decide +kernel
theorem dX5_plain_24 : decode cX5_plain 24 = .ok (.iload 5, 2) := by decide +kernel
theorem dX5_plain_26 : decode cX5_plain 26 = .ok (.iconst (-1), 1) := by decide +kernel
theorem dX5_plain_27 : decode cX5_plain 27 = .ok (.if_icmp .ne 5, 3) := by decide +kernel
theorem dX5_plain_30 : decode cX5_plain 30 = .ok (.iconst 0, 1) := by decide +kernel
theorem dX5_plain_31 : decode cX5_plain 31 = .ok (.ireturn, 1) := by decide +kernel
theorem dX5_plain_32 : decode cX5_plain 32 = .ok (.aload_n 0, 1) := by decide +kernel
theorem dX5_plain_33 : decode cX5_plain 33 = .ok (.getfield 12, 3) := by decide +kernel
theorem dX5_plain_36 : decode cX5_plain 36 = .ok (.iload_n 1, 1) := by decide +kernel
theorem dX5_plain_37 : decode cX5_plain 37 = .ok (.iload 5, 2) := by decide +kernel
theorem dX5_plain_39 : decode cX5_plain 39 = .ok (.invokevirtual 181, 3) := by decide +kernel
theorem dX5_plain_42 : decode cX5_plain 42 = .ok (.ireturn, 1) := by decide +kernel
theorem dX5_result_0 : decode cX5_result 0 = .ok (.aload_n 0, 1) := by decide +kernel
theorem dX5_result_1 : decode cX5_result 1 = .ok (.getfield 12, 3) := by decide +kernel
theorem dX5_result_4 : decode cX5_result 4 = .ok (.iload_n 1, 1) := by decide +kernel
theorem dX5_result_5 : decode cX5_result 5 = .ok (.invokevirtual 71, 3) := by decide +kernel
theorem dX5_result_8 : decode cX5_result 8 = .ok (.ifCond .eq 12, 3) := by decide +kernel
theorem dX5_result_11 : decode cX5_result 11 = .ok (.iload_n 3, 1) := by decide +kernel
theorem dX5_result_12 : decode cX5_result 12 = .ok (.ifCond .lt 8, 3) := by decide +kernel
theorem dX5_result_15 : decode cX5_result 15 = .ok (.iload_n 3, 1) := by decide +kernel
theorem dX5_result_16 : decode cX5_result 16 = .ok (.iconst 1, 1) := by decide +kernel
theorem dX5_result_17 : decode cX5_result 17 = .ok (.if_icmp .le 5, 3) := by decide +kernel
theorem dX5_result_20 : decode cX5_result 20 = .ok (.iconst (-1), 1) := by decide +kernel
theorem dX5_result_21 : decode cX5_result 21 = .ok (.ireturn, 1) := by decide +kernel
theorem dX5_result_22 : decode cX5_result 22 = .ok (.aload_n 0, 1) := by decide +kernel
theorem dX5_result_23 : decode cX5_result 23 = .ok (.getfield 12, 3) := by decide +kernel
theorem dX5_result_26 : decode cX5_result 26 = .ok (.iload_n 1, 1) := by decide +kernel
theorem dX5_result_27 : decode cX5_result 27 = .ok (.iload_n 2, 1) := by decide +kernel
theorem dX5_result_28 : decode cX5_result 28 = .ok (.invokevirtual 185, 3) := by decide +kernel
theorem dX5_result_31 : decode cX5_result 31 = .ok (.istore 4, 2) := by decide +kernel
theorem dX5_result_33 : decode cX5_result 33 = .ok (.iload 4, 2) := by decide +kernel
theorem dX5_result_35 : decode cX5_result 35 = .ok (.iconst (-1), 1) := by decide +kernel
theorem dX5_result_36 : decode cX5_result 36 = .ok (.if_icmp .eq 7, 3) := by decide +kernel
theorem dX5_result_39 : decode cX5_result 39 = .ok (.iload_n 3, 1) := by decide +kernel
theorem dX5_result_40 : decode cX5_result 40 = .ok (.ifCond .ne 6, 3) := by decide +kernel
theorem dX5_result_43 : decode cX5_result 43 = .ok (.iload 4, 2) := by decide +kernel
theorem dX5_result_45 : decode cX5_result 45 = .ok (.ireturn, 1) := by decide +kernel
theorem dX5_result_46 : decode cX5_result 46 = .ok (.aload_n 0, 1) := by decide +kernel
theorem dX5_result_47 : decode cX5_result 47 = .ok (.getfield 12, 3) := by decide +kernel
theorem dX5_result_50 : decode cX5_result 50 = .ok (.iload_n 1, 1) := by decide +kernel
theorem dX5_result_51 : decode cX5_result 51 = .ok (.iload 4, 2) := by decide +kernel
theorem dX5_result_53 : decode cX5_result 53 = .ok (.invokevirtual 181, 3) := by decide +kernel
theorem dX5_result_56 : decode cX5_result 56 = .ok (.ireturn, 1) := by decide +kernel
theorem dX5_about_0 : decode cX5_about 0 = .ok (.iload_n 1, 1) := by decide +kernel
theorem dX5_about_1 : decode cX5_about 1 = .ok (.tableswitch 120 0 12 #[67, 75, 83, 99, 120, 120, 120, 120, 120, 120, 107, 107, 107], 67) := by decide +kernel
theorem dX5_about_68 : decode cX5_about 68 = .ok (.aload_n 0, 1) := by decide +kernel
theorem dX5_about_69 : decode cX5_about 69 = .ok (.getfield 12, 3) := by decide +kernel
theorem dX5_about_72 : decode cX5_about 72 = .ok (.getfield 55, 3) := by decide +kernel
theorem dX5_about_75 : decode cX5_about 75 = .ok (.ireturn, 1) := by decide +kernel
theorem dX5_about_76 : decode cX5_about 76 = .ok (.aload_n 0, 1) := by decide +kernel
theorem dX5_about_77 : decode cX5_about 77 = .ok (.getfield 12, 3) := by decide +kernel
theorem dX5_about_80 : decode cX5_about 80 = .ok (.getfield 188, 3) := by decide +kernel
theorem dX5_about_83 : decode cX5_about 83 = .ok (.ireturn, 1) := by decide +kernel
theorem dX5_about_84 : decode cX5_about 84 = .ok (.aload_n 0, 1) := by decide +kernel
theorem dX5_about_85 : decode cX5_about 85 = .ok (.getfield 40, 3) := by decide +kernel
theorem dX5_about_88 : decode cX5_about 88 = .ok (.getfield 63, 3) := by decide +kernel
theorem dX5_about_91 : decode cX5_about 91 = .ok (.ifCond .eq 7, 3) := by decide +kernel
theorem dX5_about_94 : decode cX5_about 94 = .ok (.iconst 1, 1) := by decide +kernel
theorem dX5_about_95 : decode cX5_about 95 = .ok (.goto 4, 3) := by decide +kernel
theorem dX5_about_98 : decode cX5_about 98 = .ok (.iconst 0, 1) := by decide +kernel
theorem dX5_about_99 : decode cX5_about 99 = .ok (.ireturn, 1) := by decide +kernel
theorem dX5_about_100 : decode cX5_about 100 = .ok (.aload_n 0, 1) := by decide +kernel
theorem dX5_about_101 : decode cX5_about 101 = .ok (.getfield 19, 3) := by decide +kernel
theorem dX5_about_104 : decode cX5_about 104 = .ok (.getfield 100, 3) := by decide +kernel
theorem dX5_about_107 : decode cX5_about 107 = .ok (.ireturn, 1) := by decide +kernel
theorem dX5_about_108 : decode cX5_about 108 = .ok (.aload_n 0, 1) := by decide +kernel
theorem dX5_about_109 : decode cX5_about 109 = .ok (.getfield 12, 3) := by decide +kernel
theorem dX5_about_112 : decode cX5_about 112 = .ok (.getfield 191, 3) := by decide +kernel
theorem dX5_about_115 : decode cX5_about 115 = .ok (.iload_n 1, 1) := by decide +kernel
theorem dX5_about_116 : decode cX5_about 116 = .ok (.bipush 10, 2) := by decide +kernel
theorem dX5_about_118 : decode cX5_about 118 = .ok (.isub, 1) := by decide +kernel
theorem dX5_about_119 : decode cX5_about 119 = .ok (.iaload, 1) := by decide +kernel
theorem dX5_about_120 : decode cX5_about 120 = .ok (.ireturn, 1) := by decide +kernel
theorem dX5_about_121 : decode cX5_about 121 = .ok (.iconst (-1), 1) := by decide +kernel
theorem dX5_about_122 : decode cX5_about 122 = .ok (.ireturn, 1) := by decide +kernel
theorem dX5_forgetPlaces_0 : decode cX5_forgetPlaces 0 = .ok (.aload_n 0, 1) := by decide +kernel
theorem dX5_forgetPlaces_1 : decode cX5_forgetPlaces 1 = .ok (.getfield 26, 3) := by decide +kernel
theorem dX5_forgetPlaces_4 : decode cX5_forgetPlaces 4 = .ok (.iconst 0, 1) := by decide +kernel
theorem dX5_forgetPlaces_5 : decode cX5_forgetPlaces 5 = .ok (.putfield 194, 3) := by decide +kernel
theorem dX5_forgetPlaces_8 : decode cX5_forgetPlaces 8 = .ok (.aload_n 0, 1) := by decide +kernel
theorem dX5_forgetPlaces_9 : decode cX5_forgetPlaces 9 = .ok (.getfield 40, 3) := by decide +kernel
theorem dX5_forgetPlaces_12 : decode cX5_forgetPlaces 12 = .ok (.iconst 0, 1) := by decide +kernel
theorem dX5_forgetPlaces_13 : decode cX5_forgetPlaces 13 = .ok (.putfield 63, 3) := by decide +kernel
theorem dX5_forgetPlaces_16 : decode cX5_forgetPlaces 16 = .ok (.return_, 1) := by decide +kernel
theorem dX5_settle_0 : decode cX5_settle 0 = .ok (.aload_n 0, 1) := by decide +kernel
theorem dX5_settle_1 : decode cX5_settle 1 = .ok (.getfield 26, 3) := by decide +kernel
theorem dX5_settle_4 : decode cX5_settle 4 = .ok (.getfield 194, 3) := by decide +kernel
theorem dX5_settle_7 : decode cX5_settle 7 = .ok (.ifCond .ne 18, 3) := by decide +kernel
theorem dX5_settle_10 : decode cX5_settle 10 = .ok (.aload_n 0, 1) := by decide +kernel
theorem dX5_settle_11 : decode cX5_settle 11 = .ok (.getfield 26, 3) := by decide +kernel
theorem dX5_settle_14 : decode cX5_settle 14 = .ok (.aload_n 0, 1) := by decide +kernel
theorem dX5_settle_15 : decode cX5_settle 15 = .ok (.getfield 12, 3) := by decide +kernel
theorem dX5_settle_18 : decode cX5_settle 18 = .ok (.aload_n 0, 1) := by decide +kernel
theorem dX5_settle_19 : decode cX5_settle 19 = .ok (.getfield 19, 3) := by decide +kernel
theorem dX5_settle_22 : decode cX5_settle 22 = .ok (.invokevirtual 197, 3) := by decide +kernel
theorem dX5_settle_25 : decode cX5_settle 25 = .ok (.return_, 1) := by decide +kernel
theorem dX5_reason_0 : decode cX5_reason 0 = .ok (.aload_n 0, 1) := by decide +kernel
theorem dX5_reason_1 : decode cX5_reason 1 = .ok (.getfield 19, 3) := by decide +kernel
theorem dX5_reason_4 : decode cX5_reason 4 = .ok (.aload_n 0, 1) := by decide +kernel
theorem dX5_reason_5 : decode cX5_reason 5 = .ok (.getfield 12, 3) := by decide +kernel
theorem dX5_reason_8 : decode cX5_reason 8 = .ok (.invokevirtual 201, 3) := by decide +kernel
theorem dX5_reason_11 : decode cX5_reason 11 = .ok (.iconst (-1), 1) := by decide +kernel
theorem dX5_reason_12 : decode cX5_reason 12 = .ok (.if_icmp .eq 5, 3) := by decide +kernel
theorem dX5_reason_15 : decode cX5_reason 15 = .ok (.iconst 1, 1) := by decide +kernel
theorem dX5_reason_16 : decode cX5_reason 16 = .ok (.ireturn, 1) := by decide +kernel
theorem dX5_reason_17 : decode cX5_reason 17 = .ok (.aload_n 0, 1) := by decide +kernel
theorem dX5_reason_18 : decode cX5_reason 18 = .ok (.getfield 19, 3) := by decide +kernel
theorem dX5_reason_21 : decode cX5_reason 21 = .ok (.aload_n 0, 1) := by decide +kernel
theorem dX5_reason_22 : decode cX5_reason 22 = .ok (.getfield 12, 3) := by decide +kernel
theorem dX5_reason_25 : decode cX5_reason 25 = .ok (.invokevirtual 204, 3) := by decide +kernel
theorem dX5_reason_28 : decode cX5_reason 28 = .ok (.iconst (-1), 1) := by decide +kernel
theorem dX5_reason_29 : decode cX5_reason 29 = .ok (.if_icmp .eq 5, 3) := by decide +kernel
theorem dX5_reason_32 : decode cX5_reason 32 = .ok (.iconst 2, 1) := by decide +kernel
theorem dX5_reason_33 : decode cX5_reason 33 = .ok (.ireturn, 1) := by decide +kernel
theorem dX5_reason_34 : decode cX5_reason 34 = .ok (.aload_n 0, 1) := by decide +kernel
theorem dX5_reason_35 : decode cX5_reason 35 = .ok (.invokevirtual 114, 3) := by decide +kernel
theorem dX5_reason_38 : decode cX5_reason 38 = .ok (.aload_n 0, 1) := by decide +kernel
theorem dX5_reason_39 : decode cX5_reason 39 = .ok (.getfield 26, 3) := by decide +kernel
theorem dX5_reason_42 : decode cX5_reason 42 = .ok (.getfield 207, 3) := by decide +kernel
theorem dX5_reason_45 : decode cX5_reason 45 = .ok (.iconst (-1), 1) := by decide +kernel
theorem dX5_reason_46 : decode cX5_reason 46 = .ok (.if_icmp .ne 7, 3) := by decide +kernel
theorem dX5_reason_49 : decode cX5_reason 49 = .ok (.iconst 0, 1) := by decide +kernel
theorem dX5_reason_50 : decode cX5_reason 50 = .ok (.goto 4, 3) := by decide +kernel
theorem dX5_reason_53 : decode cX5_reason 53 = .ok (.iconst 3, 1) := by decide +kernel
theorem dX5_reason_54 : decode cX5_reason 54 = .ok (.ireturn, 1) := by decide +kernel
theorem dX5_culprit_0 : decode cX5_culprit 0 = .ok (.iload_n 1, 1) := by decide +kernel
theorem dX5_culprit_1 : decode cX5_culprit 1 = .ok (.tableswitch 59 1 3 #[27, 39, 51], 27) := by decide +kernel
theorem dX5_culprit_28 : decode cX5_culprit 28 = .ok (.aload_n 0, 1) := by decide +kernel
theorem dX5_culprit_29 : decode cX5_culprit 29 = .ok (.getfield 19, 3) := by decide +kernel
theorem dX5_culprit_32 : decode cX5_culprit 32 = .ok (.aload_n 0, 1) := by decide +kernel
theorem dX5_culprit_33 : decode cX5_culprit 33 = .ok (.getfield 12, 3) := by decide +kernel
theorem dX5_culprit_36 : decode cX5_culprit 36 = .ok (.invokevirtual 201, 3) := by decide +kernel
theorem dX5_culprit_39 : decode cX5_culprit 39 = .ok (.ireturn, 1) := by decide +kernel
theorem dX5_culprit_40 : decode cX5_culprit 40 = .ok (.aload_n 0, 1) := by decide +kernel
theorem dX5_culprit_41 : decode cX5_culprit 41 = .ok (.getfield 19, 3) := by decide +kernel
theorem dX5_culprit_44 : decode cX5_culprit 44 = .ok (.aload_n 0, 1) := by decide +kernel
theorem dX5_culprit_45 : decode cX5_culprit 45 = .ok (.getfield 12, 3) := by decide +kernel
theorem dX5_culprit_48 : decode cX5_culprit 48 = .ok (.invokevirtual 204, 3) := by decide +kernel
theorem dX5_culprit_51 : decode cX5_culprit 51 = .ok (.ireturn, 1) := by decide +kernel
theorem dX5_culprit_52 : decode cX5_culprit 52 = .ok (.aload_n 0, 1) := by decide +kernel
theorem dX5_culprit_53 : decode cX5_culprit 53 = .ok (.getfield 26, 3) := by decide +kernel
theorem dX5_culprit_56 : decode cX5_culprit 56 = .ok (.getfield 207, 3) := by decide +kernel
theorem dX5_culprit_59 : decode cX5_culprit 59 = .ok (.ireturn, 1) := by decide +kernel
theorem dX5_culprit_60 : decode cX5_culprit 60 = .ok (.iconst (-1), 1) := by decide +kernel
theorem dX5_culprit_61 : decode cX5_culprit 61 = .ok (.ireturn, 1) := by decide +kernel
theorem dX5_isSize_0 : decode cX5_isSize 0 = .ok (.iload_n 0, 1) := by decide +kernel
theorem dX5_isSize_1 : decode cX5_isSize 1 = .ok (.iconst 1, 1) := by decide +kernel
theorem dX5_isSize_2 : decode cX5_isSize 2 = .ok (.if_icmp .lt 13, 3) := by decide +kernel
theorem dX5_isSize_5 : decode cX5_isSize 5 = .ok (.iload_n 0, 1) := by decide +kernel
theorem dX5_isSize_6 : decode cX5_isSize 6 = .ok (.bipush 8, 2) := by decide +kernel
theorem dX5_isSize_8 : decode cX5_isSize 8 = .ok (.if_icmp .gt 7, 3) := by decide +kernel
theorem dX5_isSize_11 : decode cX5_isSize 11 = .ok (.iconst 1, 1) := by decide +kernel
theorem dX5_isSize_12 : decode cX5_isSize 12 = .ok (.goto 4, 3) := by decide +kernel
theorem dX5_isSize_15 : decode cX5_isSize 15 = .ok (.iconst 0, 1) := by decide +kernel
theorem dX5_isSize_16 : decode cX5_isSize 16 = .ok (.ireturn, 1) := by decide +kernel
theorem dX5_isIndex_0 : decode cX5_isIndex 0 = .ok (.iload_n 0, 1) := by decide +kernel
theorem dX5_isIndex_1 : decode cX5_isIndex 1 = .ok (.ifCond .lt 12, 3) := by decide +kernel
theorem dX5_isIndex_4 : decode cX5_isIndex 4 = .ok (.iload_n 0, 1) := by decide +kernel
theorem dX5_isIndex_5 : decode cX5_isIndex 5 = .ok (.iconst 2, 1) := by decide +kernel
theorem dX5_isIndex_6 : decode cX5_isIndex 6 = .ok (.if_icmp .gt 7, 3) := by decide +kernel
theorem dX5_isIndex_9 : decode cX5_isIndex 9 = .ok (.iconst 1, 1) := by decide +kernel
theorem dX5_isIndex_10 : decode cX5_isIndex 10 = .ok (.goto 4, 3) := by decide +kernel
theorem dX5_isIndex_13 : decode cX5_isIndex 13 = .ok (.iconst 0, 1) := by decide +kernel
theorem dX5_isIndex_14 : decode cX5_isIndex 14 = .ok (.ireturn, 1) := by decide +kernel
theorem dX5_within_0 : decode cX5_within 0 = .ok (.iload_n 1, 1) := by decide +kernel
theorem dX5_within_1 : decode cX5_within 1 = .ok (.iload_n 0, 1) := by decide +kernel
theorem dX5_within_2 : decode cX5_within 2 = .ok (.ineg, 1) := by decide +kernel
theorem dX5_within_3 : decode cX5_within 3 = .ok (.if_icmp .lt 34, 3) := by decide +kernel
theorem dX5_within_6 : decode cX5_within 6 = .ok (.iload_n 1, 1) := by decide +kernel
theorem dX5_within_7 : decode cX5_within 7 = .ok (.iload_n 0, 1) := by decide +kernel
theorem dX5_within_8 : decode cX5_within 8 = .ok (.if_icmp .gt 29, 3) := by decide +kernel
theorem dX5_within_11 : decode cX5_within 11 = .ok (.iload_n 2, 1) := by decide +kernel
theorem dX5_within_12 : decode cX5_within 12 = .ok (.iload_n 0, 1) := by decide +kernel
theorem dX5_within_13 : decode cX5_within 13 = .ok (.ineg, 1) := by decide +kernel
theorem dX5_within_14 : decode cX5_within 14 = .ok (.if_icmp .lt 23, 3) := by decide +kernel
theorem dX5_within_17 : decode cX5_within 17 = .ok (.iload_n 2, 1) := by decide +kernel
theorem dX5_within_18 : decode cX5_within 18 = .ok (.iload_n 0, 1) := by decide +kernel
theorem dX5_within_19 : decode cX5_within 19 = .ok (.if_icmp .gt 18, 3) := by decide +kernel
theorem dX5_within_22 : decode cX5_within 22 = .ok (.iload_n 3, 1) := by decide +kernel
theorem dX5_within_23 : decode cX5_within 23 = .ok (.iload_n 0, 1) := by decide +kernel
theorem dX5_within_24 : decode cX5_within 24 = .ok (.ineg, 1) := by decide +kernel
theorem dX5_within_25 : decode cX5_within 25 = .ok (.if_icmp .lt 12, 3) := by decide +kernel
theorem dX5_within_28 : decode cX5_within 28 = .ok (.iload_n 3, 1) := by decide +kernel
theorem dX5_within_29 : decode cX5_within 29 = .ok (.iload_n 0, 1) := by decide +kernel
theorem dX5_within_30 : decode cX5_within 30 = .ok (.if_icmp .gt 7, 3) := by decide +kernel
theorem dX5_within_33 : decode cX5_within 33 = .ok (.iconst 1, 1) := by decide +kernel
theorem dX5_within_34 : decode cX5_within 34 = .ok (.goto 4, 3) := by decide +kernel
theorem dX5_within_37 : decode cX5_within 37 = .ok (.iconst 0, 1) := by decide +kernel
theorem dX5_within_38 : decode cX5_within 38 = .ok (.ireturn, 1) := by decide +kernel
theorem dX5_areZeros_0 : decode cX5_areZeros 0 = .ok (.iload_n 0, 1) := by decide +kernel
theorem dX5_areZeros_1 : decode cX5_areZeros 1 = .ok (.ifCond .ne 15, 3) := by decide +kernel
theorem dX5_areZeros_4 : decode cX5_areZeros 4 = .ok (.iload_n 1, 1) := by decide +kernel
theorem dX5_areZeros_5 : decode cX5_areZeros 5 = .ok (.ifCond .ne 11, 3) := by decide +kernel
theorem dX5_areZeros_8 : decode cX5_areZeros 8 = .ok (.iload_n 2, 1) := by decide +kernel
theorem dX5_areZeros_9 : decode cX5_areZeros 9 = .ok (.ifCond .ne 7, 3) := by decide +kernel
theorem dX5_areZeros_12 : decode cX5_areZeros 12 = .ok (.iconst 1, 1) := by decide +kernel
theorem dX5_areZeros_13 : decode cX5_areZeros 13 = .ok (.goto 4, 3) := by decide +kernel
theorem dX5_areZeros_16 : decode cX5_areZeros 16 = .ok (.iconst 0, 1) := by decide +kernel
theorem dX5_areZeros_17 : decode cX5_areZeros 17 = .ok (.ireturn, 1) := by decide +kernel
theorem dX5_isStep_0 : decode cX5_isStep 0 = .ok (.iconst 2, 1) := by decide +kernel
theorem dX5_isStep_1 : decode cX5_isStep 1 = .ok (.iload_n 0, 1) := by decide +kernel
theorem dX5_isStep_2 : decode cX5_isStep 2 = .ok (.iload_n 1, 1) := by decide +kernel
theorem dX5_isStep_3 : decode cX5_isStep 3 = .ok (.iload_n 2, 1) := by decide +kernel
theorem dX5_isStep_4 : decode cX5_isStep 4 = .ok (.invokestatic 90, 3) := by decide +kernel
theorem dX5_isStep_7 : decode cX5_isStep 7 = .ok (.ifCond .eq 16, 3) := by decide +kernel
theorem dX5_isStep_10 : decode cX5_isStep 10 = .ok (.iload_n 0, 1) := by decide +kernel
theorem dX5_isStep_11 : decode cX5_isStep 11 = .ok (.iload_n 1, 1) := by decide +kernel
theorem dX5_isStep_12 : decode cX5_isStep 12 = .ok (.iload_n 2, 1) := by decide +kernel
theorem dX5_isStep_13 : decode cX5_isStep 13 = .ok (.invokestatic 210, 3) := by decide +kernel
theorem dX5_isStep_16 : decode cX5_isStep 16 = .ok (.ifCond .eq 7, 3) := by decide +kernel
theorem dX5_isStep_19 : decode cX5_isStep 19 = .ok (.iconst 1, 1) := by decide +kernel
theorem dX5_isStep_20 : decode cX5_isStep 20 = .ok (.goto 4, 3) := by decide +kernel
theorem dX5_isStep_23 : decode cX5_isStep 23 = .ok (.iconst 0, 1) := by decide +kernel
theorem dX5_isStep_24 : decode cX5_isStep 24 = .ok (.ireturn, 1) := by decide +kernel
theorem dX5_leadsUp_0 : decode cX5_leadsUp 0 = .ok (.iload_n 0, 1) := by decide +kernel
theorem dX5_leadsUp_1 : decode cX5_leadsUp 1 = .ok (.ifCond .eq 13, 3) := by decide +kernel
theorem dX5_leadsUp_4 : decode cX5_leadsUp 4 = .ok (.iload_n 0, 1) := by decide +kernel
theorem dX5_leadsUp_5 : decode cX5_leadsUp 5 = .ok (.ifCond .le 7, 3) := by decide +kernel
theorem dX5_leadsUp_8 : decode cX5_leadsUp 8 = .ok (.iconst 1, 1) := by decide +kernel
theorem dX5_leadsUp_9 : decode cX5_leadsUp 9 = .ok (.goto 4, 3) := by decide +kernel
theorem dX5_leadsUp_12 : decode cX5_leadsUp 12 = .ok (.iconst 0, 1) := by decide +kernel
theorem dX5_leadsUp_13 : decode cX5_leadsUp 13 = .ok (.ireturn, 1) := by decide +kernel
theorem dX5_leadsUp_14 : decode cX5_leadsUp 14 = .ok (.iload_n 1, 1) := by decide +kernel
theorem dX5_leadsUp_15 : decode cX5_leadsUp 15 = .ok (.ifCond .eq 15, 3) := by decide +kernel
theorem dX5_leadsUp_18 : decode cX5_leadsUp 18 = .ok (.iload_n 1, 1) := by decide +kernel
theorem dX5_leadsUp_19 : decode cX5_leadsUp 19 = .ok (.ifCond .le 7, 3) := by decide +kernel
theorem dX5_leadsUp_22 : decode cX5_leadsUp 22 = .ok (.iconst 1, 1) := by decide +kernel
theorem dX5_leadsUp_23 : decode cX5_leadsUp 23 = .ok (.goto 16, 3) := by decide +kernel
theorem dX5_leadsUp_26 : decode cX5_leadsUp 26 = .ok (.iconst 0, 1) := by decide +kernel
theorem dX5_leadsUp_27 : decode cX5_leadsUp 27 = .ok (.goto 12, 3) := by decide +kernel
theorem dX5_leadsUp_30 : decode cX5_leadsUp 30 = .ok (.iload_n 2, 1) := by decide +kernel
theorem dX5_leadsUp_31 : decode cX5_leadsUp 31 = .ok (.ifCond .le 7, 3) := by decide +kernel
theorem dX5_leadsUp_34 : decode cX5_leadsUp 34 = .ok (.iconst 1, 1) := by decide +kernel
theorem dX5_leadsUp_35 : decode cX5_leadsUp 35 = .ok (.goto 4, 3) := by decide +kernel
theorem dX5_leadsUp_38 : decode cX5_leadsUp 38 = .ok (.iconst 0, 1) := by decide +kernel
