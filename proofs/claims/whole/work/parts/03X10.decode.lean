theorem dX1_init_0 : decode cX1_init 0 = .ok (.aload_n 0, 1) := by decide +kernel
theorem dX1_init_1 : decode cX1_init 1 = .ok (.invokespecial 3, 3) := by decide +kernel
theorem dX1_init_4 : decode cX1_init 4 = .ok (.aload_n 0, 1) := by decide +kernel
theorem dX1_init_5 : decode cX1_init 5 = .ok (.bipush 9, 2) := by decide +kernel
theorem dX1_init_7 : decode cX1_init 7 = .ok (.newarray .int, 2) := by decide +kernel
theorem dX1_init_9 : decode cX1_init 9 = .ok (.dup, 1) := by decide +kernel
theorem dX1_init_10 : decode cX1_init 10 = .ok (.iconst 0, 1) := by decide +kernel
theorem dX1_init_11 : decode cX1_init 11 = .ok (.iconst 1, 1) := by decide +kernel
theorem dX1_init_12 : decode cX1_init 12 = .ok (.iastore, 1) := by decide +kernel
theorem dX1_init_13 : decode cX1_init 13 = .ok (.dup, 1) := by decide +kernel
theorem dX1_init_14 : decode cX1_init 14 = .ok (.iconst 1, 1) := by decide +kernel
theorem dX1_init_15 : decode cX1_init 15 = .ok (.iconst 1, 1) := by decide +kernel
theorem dX1_init_16 : decode cX1_init 16 = .ok (.iastore, 1) := by decide +kernel
theorem dX1_init_17 : decode cX1_init 17 = .ok (.dup, 1) := by decide +kernel
theorem dX1_init_18 : decode cX1_init 18 = .ok (.iconst 2, 1) := by decide +kernel
theorem dX1_init_19 : decode cX1_init 19 = .ok (.iconst 1, 1) := by decide +kernel
theorem dX1_init_20 : decode cX1_init 20 = .ok (.iastore, 1) := by decide +kernel
theorem dX1_init_21 : decode cX1_init 21 = .ok (.dup, 1) := by decide +kernel
theorem dX1_init_22 : decode cX1_init 22 = .ok (.iconst 3, 1) := by decide +kernel
theorem dX1_init_23 : decode cX1_init 23 = .ok (.iconst 1, 1) := by decide +kernel
theorem dX1_init_24 : decode cX1_init 24 = .ok (.iastore, 1) := by decide +kernel
theorem dX1_init_25 : decode cX1_init 25 = .ok (.dup, 1) := by decide +kernel
theorem dX1_init_26 : decode cX1_init 26 = .ok (.iconst 4, 1) := by decide +kernel
theorem dX1_init_27 : decode cX1_init 27 = .ok (.iconst 0, 1) := by decide +kernel
theorem dX1_init_28 : decode cX1_init 28 = .ok (.iastore, 1) := by decide +kernel
theorem dX1_init_29 : decode cX1_init 29 = .ok (.dup, 1) := by decide +kernel
theorem dX1_init_30 : decode cX1_init 30 = .ok (.iconst 5, 1) := by decide +kernel
theorem dX1_init_31 : decode cX1_init 31 = .ok (.iconst 0, 1) := by decide +kernel
theorem dX1_init_32 : decode cX1_init 32 = .ok (.iastore, 1) := by decide +kernel
theorem dX1_init_33 : decode cX1_init 33 = .ok (.dup, 1) := by decide +kernel
theorem dX1_init_34 : decode cX1_init 34 = .ok (.bipush 6, 2) := by decide +kernel
theorem dX1_init_36 : decode cX1_init 36 = .ok (.iconst 0, 1) := by decide +kernel
theorem dX1_init_37 : decode cX1_init 37 = .ok (.iastore, 1) := by decide +kernel
theorem dX1_init_38 : decode cX1_init 38 = .ok (.dup, 1) := by decide +kernel
theorem dX1_init_39 : decode cX1_init 39 = .ok (.bipush 7, 2) := by decide +kernel
theorem dX1_init_41 : decode cX1_init 41 = .ok (.iconst 0, 1) := by decide +kernel
theorem dX1_init_42 : decode cX1_init 42 = .ok (.iastore, 1) := by decide +kernel
theorem dX1_init_43 : decode cX1_init 43 = .ok (.dup, 1) := by decide +kernel
theorem dX1_init_44 : decode cX1_init 44 = .ok (.bipush 8, 2) := by decide +kernel
theorem dX1_init_46 : decode cX1_init 46 = .ok (.iconst 0, 1) := by decide +kernel
theorem dX1_init_47 : decode cX1_init 47 = .ok (.iastore, 1) := by decide +kernel
theorem dX1_init_48 : decode cX1_init 48 = .ok (.putfield 9, 3) := by decide +kernel
theorem dX1_init_51 : decode cX1_init 51 = .ok (.aload_n 0, 1) := by decide +kernel
theorem dX1_init_52 : decode cX1_init 52 = .ok (.iconst 1, 1) := by decide +kernel
theorem dX1_init_53 : decode cX1_init 53 = .ok (.putfield 15, 3) := by decide +kernel
theorem dX1_init_56 : decode cX1_init 56 = .ok (.return_, 1) := by decide +kernel
theorem dX1_put_0 : decode cX1_put 0 = .ok (.aload_n 0, 1) := by decide +kernel
theorem dX1_put_1 : decode cX1_put 1 = .ok (.getfield 9, 3) := by decide +kernel
theorem dX1_put_4 : decode cX1_put 4 = .ok (.iconst 3, 1) := by decide +kernel
theorem dX1_put_5 : decode cX1_put 5 = .ok (.iload_n 1, 1) := by decide +kernel
theorem dX1_put_6 : decode cX1_put 6 = .ok (.imul, 1) := by decide +kernel
theorem dX1_put_7 : decode cX1_put 7 = .ok (.iload_n 2, 1) := by decide +kernel
theorem dX1_put_8 : decode cX1_put 8 = .ok (.iastore, 1) := by decide +kernel
theorem dX1_put_9 : decode cX1_put 9 = .ok (.aload_n 0, 1) := by decide +kernel
theorem dX1_put_10 : decode cX1_put 10 = .ok (.getfield 9, 3) := by decide +kernel
theorem dX1_put_13 : decode cX1_put 13 = .ok (.iconst 3, 1) := by decide +kernel
theorem dX1_put_14 : decode cX1_put 14 = .ok (.iload_n 1, 1) := by decide +kernel
theorem dX1_put_15 : decode cX1_put 15 = .ok (.imul, 1) := by decide +kernel
theorem dX1_put_16 : decode cX1_put 16 = .ok (.iconst 1, 1) := by decide +kernel
theorem dX1_put_17 : decode cX1_put 17 = .ok (.iadd, 1) := by decide +kernel
theorem dX1_put_18 : decode cX1_put 18 = .ok (.iload_n 3, 1) := by decide +kernel
theorem dX1_put_19 : decode cX1_put 19 = .ok (.iastore, 1) := by decide +kernel
theorem dX1_put_20 : decode cX1_put 20 = .ok (.aload_n 0, 1) := by decide +kernel
theorem dX1_put_21 : decode cX1_put 21 = .ok (.getfield 9, 3) := by decide +kernel
theorem dX1_put_24 : decode cX1_put 24 = .ok (.iconst 3, 1) := by decide +kernel
theorem dX1_put_25 : decode cX1_put 25 = .ok (.iload_n 1, 1) := by decide +kernel
theorem dX1_put_26 : decode cX1_put 26 = .ok (.imul, 1) := by decide +kernel
theorem dX1_put_27 : decode cX1_put 27 = .ok (.iconst 2, 1) := by decide +kernel
theorem dX1_put_28 : decode cX1_put 28 = .ok (.iadd, 1) := by decide +kernel
theorem dX1_put_29 : decode cX1_put 29 = .ok (.iload 4, 2) := by decide +kernel
theorem dX1_put_31 : decode cX1_put 31 = .ok (.iastore, 1) := by decide +kernel
theorem dX1_put_32 : decode cX1_put 32 = .ok (.return_, 1) := by decide +kernel
theorem dX1_takeNumbers_0 : decode cX1_takeNumbers 0 = .ok (.aload_n 1, 1) := by decide +kernel
theorem dX1_takeNumbers_1 : decode cX1_takeNumbers 1 = .ok (.getfield 9, 3) := by decide +kernel
theorem dX1_takeNumbers_4 : decode cX1_takeNumbers 4 = .ok (.iconst 0, 1) := by decide +kernel
theorem dX1_takeNumbers_5 : decode cX1_takeNumbers 5 = .ok (.aload_n 0, 1) := by decide +kernel
theorem dX1_takeNumbers_6 : decode cX1_takeNumbers 6 = .ok (.getfield 9, 3) := by decide +kernel
theorem dX1_takeNumbers_9 : decode cX1_takeNumbers 9 = .ok (.iconst 0, 1) := by decide +kernel
theorem dX1_takeNumbers_10 : decode cX1_takeNumbers 10 = .ok (.aload_n 0, 1) := by decide +kernel
theorem dX1_takeNumbers_11 : decode cX1_takeNumbers 11 = .ok (.getfield 9, 3) := by decide +kernel
theorem dX1_takeNumbers_14 : decode cX1_takeNumbers 14 = .ok (.arraylength, 1) := by decide +kernel
theorem dX1_takeNumbers_15 : decode cX1_takeNumbers 15 = .ok (.invokestatic 19, 3) := by decide +kernel
theorem dX1_takeNumbers_18 : decode cX1_takeNumbers 18 = .ok (.return_, 1) := by decide +kernel
theorem dX1_times_0 : decode cX1_times 0 = .ok (.iconst 3, 1) := by decide +kernel
theorem dX1_times_1 : decode cX1_times 1 = .ok (.iload_n 1, 1) := by decide +kernel
theorem dX1_times_2 : decode cX1_times 2 = .ok (.imul, 1) := by decide +kernel
theorem dX1_times_3 : decode cX1_times 3 = .ok (.istore 5, 2) := by decide +kernel
theorem dX1_times_5 : decode cX1_times 5 = .ok (.aload_n 0, 1) := by decide +kernel
theorem dX1_times_6 : decode cX1_times 6 = .ok (.getfield 9, 3) := by decide +kernel
theorem dX1_times_9 : decode cX1_times 9 = .ok (.iload 5, 2) := by decide +kernel
theorem dX1_times_11 : decode cX1_times 11 = .ok (.iaload, 1) := by decide +kernel
theorem dX1_times_12 : decode cX1_times 12 = .ok (.iload_n 2, 1) := by decide +kernel
theorem dX1_times_13 : decode cX1_times 13 = .ok (.imul, 1) := by decide +kernel
theorem dX1_times_14 : decode cX1_times 14 = .ok (.aload_n 0, 1) := by decide +kernel
theorem dX1_times_15 : decode cX1_times 15 = .ok (.getfield 9, 3) := by decide +kernel
theorem dX1_times_18 : decode cX1_times 18 = .ok (.iload 5, 2) := by decide +kernel
theorem dX1_times_20 : decode cX1_times 20 = .ok (.iconst 1, 1) := by decide +kernel
theorem dX1_times_21 : decode cX1_times 21 = .ok (.iadd, 1) := by decide +kernel
theorem dX1_times_22 : decode cX1_times 22 = .ok (.iaload, 1) := by decide +kernel
theorem dX1_times_23 : decode cX1_times 23 = .ok (.iload_n 3, 1) := by decide +kernel
theorem dX1_times_24 : decode cX1_times 24 = .ok (.imul, 1) := by decide +kernel
theorem dX1_times_25 : decode cX1_times 25 = .ok (.iadd, 1) := by decide +kernel
theorem dX1_times_26 : decode cX1_times 26 = .ok (.aload_n 0, 1) := by decide +kernel
theorem dX1_times_27 : decode cX1_times 27 = .ok (.getfield 9, 3) := by decide +kernel
theorem dX1_times_30 : decode cX1_times 30 = .ok (.iload 5, 2) := by decide +kernel
theorem dX1_times_32 : decode cX1_times 32 = .ok (.iconst 2, 1) := by decide +kernel
theorem dX1_times_33 : decode cX1_times 33 = .ok (.iadd, 1) := by decide +kernel
theorem dX1_times_34 : decode cX1_times 34 = .ok (.iaload, 1) := by decide +kernel
theorem dX1_times_35 : decode cX1_times 35 = .ok (.iload 4, 2) := by decide +kernel
theorem dX1_times_37 : decode cX1_times 37 = .ok (.imul, 1) := by decide +kernel
theorem dX1_times_38 : decode cX1_times 38 = .ok (.iadd, 1) := by decide +kernel
theorem dX1_times_39 : decode cX1_times 39 = .ok (.ireturn, 1) := by decide +kernel
theorem dX1_timesCode_0 : decode cX1_timesCode 0 = .ok (.aload_n 0, 1) := by decide +kernel
theorem dX1_timesCode_1 : decode cX1_timesCode 1 = .ok (.iload_n 1, 1) := by decide +kernel
theorem dX1_timesCode_2 : decode cX1_timesCode 2 = .ok (.iload_n 2, 1) := by decide +kernel
theorem dX1_timesCode_3 : decode cX1_timesCode 3 = .ok (.bipush 6, 2) := by decide +kernel
theorem dX1_timesCode_5 : decode cX1_timesCode 5 = .ok (.ishr, 1) := by decide +kernel
theorem dX1_timesCode_6 : decode cX1_timesCode 6 = .ok (.iload_n 2, 1) := by decide +kernel
theorem dX1_timesCode_7 : decode cX1_timesCode 7 = .ok (.iconst 3, 1) := by decide +kernel
theorem dX1_timesCode_8 : decode cX1_timesCode 8 = .ok (.ishr, 1) := by decide +kernel
theorem dX1_timesCode_9 : decode cX1_timesCode 9 = .ok (.bipush 7, 2) := by decide +kernel
theorem dX1_timesCode_11 : decode cX1_timesCode 11 = .ok (.iand, 1) := by decide +kernel
theorem dX1_timesCode_12 : decode cX1_timesCode 12 = .ok (.iload_n 2, 1) := by decide +kernel
theorem dX1_timesCode_13 : decode cX1_timesCode 13 = .ok (.bipush 7, 2) := by decide +kernel
theorem dX1_timesCode_15 : decode cX1_timesCode 15 = .ok (.iand, 1) := by decide +kernel
theorem dX1_timesCode_16 : decode cX1_timesCode 16 = .ok (.invokevirtual 25, 3) := by decide +kernel
theorem dX1_timesCode_19 : decode cX1_timesCode 19 = .ok (.ireturn, 1) := by decide +kernel
theorem dX1_least_0 : decode cX1_least 0 = .ok (.iconst 0, 1) := by decide +kernel
theorem dX1_least_1 : decode cX1_least 1 = .ok (.istore_n 3, 1) := by decide +kernel
theorem dX1_least_2 : decode cX1_least 2 = .ok (.iconst 0, 1) := by decide +kernel
theorem dX1_least_3 : decode cX1_least 3 = .ok (.istore 4, 2) := by decide +kernel
theorem dX1_least_5 : decode cX1_least 5 = .ok (.iload 4, 2) := by decide +kernel
theorem dX1_least_7 : decode cX1_least 7 = .ok (.iconst 3, 1) := by decide +kernel
theorem dX1_least_8 : decode cX1_least 8 = .ok (.if_icmp .ge 37, 3) := by decide +kernel
theorem dX1_least_11 : decode cX1_least 11 = .ok (.iload_n 3, 1) := by decide +kernel
theorem dX1_least_12 : decode cX1_least 12 = .ok (.iconst 0, 1) := by decide +kernel
theorem dX1_least_13 : decode cX1_least 13 = .ok (.aload_n 0, 1) := by decide +kernel
theorem dX1_least_14 : decode cX1_least 14 = .ok (.getfield 9, 3) := by decide +kernel
theorem dX1_least_17 : decode cX1_least 17 = .ok (.iconst 3, 1) := by decide +kernel
theorem dX1_least_18 : decode cX1_least 18 = .ok (.iload_n 1, 1) := by decide +kernel
theorem dX1_least_19 : decode cX1_least 19 = .ok (.imul, 1) := by decide +kernel
theorem dX1_least_20 : decode cX1_least 20 = .ok (.iload 4, 2) := by decide +kernel
theorem dX1_least_22 : decode cX1_least 22 = .ok (.iadd, 1) := by decide +kernel
theorem dX1_least_23 : decode cX1_least 23 = .ok (.iaload, 1) := by decide +kernel
theorem dX1_least_24 : decode cX1_least 24 = .ok (.aload_n 2, 1) := by decide +kernel
theorem dX1_least_25 : decode cX1_least 25 = .ok (.getfield 29, 3) := by decide +kernel
theorem dX1_least_28 : decode cX1_least 28 = .ok (.iload 4, 2) := by decide +kernel
theorem dX1_least_30 : decode cX1_least 30 = .ok (.iaload, 1) := by decide +kernel
theorem dX1_least_31 : decode cX1_least 31 = .ok (.iconst 1, 1) := by decide +kernel
theorem dX1_least_32 : decode cX1_least 32 = .ok (.isub, 1) := by decide +kernel
theorem dX1_least_33 : decode cX1_least 33 = .ok (.imul, 1) := by decide +kernel
theorem dX1_least_34 : decode cX1_least 34 = .ok (.invokestatic 34, 3) := by decide +kernel
theorem dX1_least_37 : decode cX1_least 37 = .ok (.iadd, 1) := by decide +kernel
theorem dX1_least_38 : decode cX1_least 38 = .ok (.istore_n 3, 1) := by decide +kernel
theorem dX1_least_39 : decode cX1_least 39 = .ok (.iinc 4 1, 3) := by decide +kernel
theorem dX1_least_42 : decode cX1_least 42 = .ok (.goto (-37), 3) := by decide +kernel
theorem dX1_least_45 : decode cX1_least 45 = .ok (.iload_n 3, 1) := by decide +kernel
theorem dX1_least_46 : decode cX1_least 46 = .ok (.ireturn, 1) := by decide +kernel
theorem dX1_beatsUnfolded_0 : decode cX1_beatsUnfolded 0 = .ok (.iconst 0, 1) := by decide +kernel
theorem dX1_beatsUnfolded_1 : decode cX1_beatsUnfolded 1 = .ok (.istore_n 2, 1) := by decide +kernel
theorem dX1_beatsUnfolded_2 : decode cX1_beatsUnfolded 2 = .ok (.iconst 0, 1) := by decide +kernel
theorem dX1_beatsUnfolded_3 : decode cX1_beatsUnfolded 3 = .ok (.istore_n 3, 1) := by decide +kernel
theorem dX1_beatsUnfolded_4 : decode cX1_beatsUnfolded 4 = .ok (.iload_n 3, 1) := by decide +kernel
theorem dX1_beatsUnfolded_5 : decode cX1_beatsUnfolded 5 = .ok (.iconst 3, 1) := by decide +kernel
theorem dX1_beatsUnfolded_6 : decode cX1_beatsUnfolded 6 = .ok (.if_icmp .ge 30, 3) := by decide +kernel
theorem dX1_beatsUnfolded_9 : decode cX1_beatsUnfolded 9 = .ok (.iload_n 2, 1) := by decide +kernel
theorem dX1_beatsUnfolded_10 : decode cX1_beatsUnfolded 10 = .ok (.aload_n 0, 1) := by decide +kernel
theorem dX1_beatsUnfolded_11 : decode cX1_beatsUnfolded 11 = .ok (.getfield 9, 3) := by decide +kernel
theorem dX1_beatsUnfolded_14 : decode cX1_beatsUnfolded 14 = .ok (.iload_n 3, 1) := by decide +kernel
theorem dX1_beatsUnfolded_15 : decode cX1_beatsUnfolded 15 = .ok (.iaload, 1) := by decide +kernel
theorem dX1_beatsUnfolded_16 : decode cX1_beatsUnfolded 16 = .ok (.invokestatic 40, 3) := by decide +kernel
theorem dX1_beatsUnfolded_19 : decode cX1_beatsUnfolded 19 = .ok (.aload_n 1, 1) := by decide +kernel
theorem dX1_beatsUnfolded_20 : decode cX1_beatsUnfolded 20 = .ok (.getfield 29, 3) := by decide +kernel
theorem dX1_beatsUnfolded_23 : decode cX1_beatsUnfolded 23 = .ok (.iload_n 3, 1) := by decide +kernel
theorem dX1_beatsUnfolded_24 : decode cX1_beatsUnfolded 24 = .ok (.iaload, 1) := by decide +kernel
theorem dX1_beatsUnfolded_25 : decode cX1_beatsUnfolded 25 = .ok (.iconst 1, 1) := by decide +kernel
theorem dX1_beatsUnfolded_26 : decode cX1_beatsUnfolded 26 = .ok (.isub, 1) := by decide +kernel
theorem dX1_beatsUnfolded_27 : decode cX1_beatsUnfolded 27 = .ok (.imul, 1) := by decide +kernel
theorem dX1_beatsUnfolded_28 : decode cX1_beatsUnfolded 28 = .ok (.iadd, 1) := by decide +kernel
theorem dX1_beatsUnfolded_29 : decode cX1_beatsUnfolded 29 = .ok (.istore_n 2, 1) := by decide +kernel
theorem dX1_beatsUnfolded_30 : decode cX1_beatsUnfolded 30 = .ok (.iinc 3 1, 3) := by decide +kernel
theorem dX1_beatsUnfolded_33 : decode cX1_beatsUnfolded 33 = .ok (.goto (-29), 3) := by decide +kernel
theorem dX1_beatsUnfolded_36 : decode cX1_beatsUnfolded 36 = .ok (.iload_n 2, 1) := by decide +kernel
theorem dX1_beatsUnfolded_37 : decode cX1_beatsUnfolded 37 = .ok (.iconst 1, 1) := by decide +kernel
theorem dX1_beatsUnfolded_38 : decode cX1_beatsUnfolded 38 = .ok (.iadd, 1) := by decide +kernel
theorem dX1_beatsUnfolded_39 : decode cX1_beatsUnfolded 39 = .ok (.ireturn, 1) := by decide +kernel
theorem dX1_delay_0 : decode cX1_delay 0 = .ok (.aload_n 0, 1) := by decide +kernel
theorem dX1_delay_1 : decode cX1_delay 1 = .ok (.iconst 0, 1) := by decide +kernel
theorem dX1_delay_2 : decode cX1_delay 2 = .ok (.aload_n 1, 1) := by decide +kernel
theorem dX1_delay_3 : decode cX1_delay 3 = .ok (.iload_n 2, 1) := by decide +kernel
theorem dX1_delay_4 : decode cX1_delay 4 = .ok (.invokevirtual 44, 3) := by decide +kernel
theorem dX1_delay_7 : decode cX1_delay 7 = .ok (.ireturn, 1) := by decide +kernel
theorem dX1_way_0 : decode cX1_way 0 = .ok (.aload_n 0, 1) := by decide +kernel
theorem dX1_way_1 : decode cX1_way 1 = .ok (.iconst 1, 1) := by decide +kernel
theorem dX1_way_2 : decode cX1_way 2 = .ok (.aload_n 1, 1) := by decide +kernel
theorem dX1_way_3 : decode cX1_way 3 = .ok (.iload_n 2, 1) := by decide +kernel
theorem dX1_way_4 : decode cX1_way 4 = .ok (.invokevirtual 44, 3) := by decide +kernel
theorem dX1_way_7 : decode cX1_way 7 = .ok (.invokestatic 40, 3) := by decide +kernel
theorem dX1_way_10 : decode cX1_way 10 = .ok (.aload_n 0, 1) := by decide +kernel
theorem dX1_way_11 : decode cX1_way 11 = .ok (.iconst 2, 1) := by decide +kernel
theorem dX1_way_12 : decode cX1_way 12 = .ok (.aload_n 1, 1) := by decide +kernel
theorem dX1_way_13 : decode cX1_way 13 = .ok (.iload_n 2, 1) := by decide +kernel
theorem dX1_way_14 : decode cX1_way 14 = .ok (.invokevirtual 44, 3) := by decide +kernel
theorem dX1_way_17 : decode cX1_way 17 = .ok (.invokestatic 40, 3) := by decide +kernel
theorem dX1_way_20 : decode cX1_way 20 = .ok (.iadd, 1) := by decide +kernel
theorem dX1_way_21 : decode cX1_way 21 = .ok (.ireturn, 1) := by decide +kernel
theorem dX1_timesStep_0 : decode cX1_timesStep 0 = .ok (.iconst 0, 1) := by decide +kernel
theorem dX1_timesStep_1 : decode cX1_timesStep 1 = .ok (.istore 4, 2) := by decide +kernel
theorem dX1_timesStep_3 : decode cX1_timesStep 3 = .ok (.iconst 0, 1) := by decide +kernel
theorem dX1_timesStep_4 : decode cX1_timesStep 4 = .ok (.istore 5, 2) := by decide +kernel
theorem dX1_timesStep_6 : decode cX1_timesStep 6 = .ok (.iload 5, 2) := by decide +kernel
theorem dX1_timesStep_8 : decode cX1_timesStep 8 = .ok (.iconst 3, 1) := by decide +kernel
theorem dX1_timesStep_9 : decode cX1_timesStep 9 = .ok (.if_icmp .ge 37, 3) := by decide +kernel
theorem dX1_timesStep_12 : decode cX1_timesStep 12 = .ok (.iload 4, 2) := by decide +kernel
theorem dX1_timesStep_14 : decode cX1_timesStep 14 = .ok (.aload_n 0, 1) := by decide +kernel
theorem dX1_timesStep_15 : decode cX1_timesStep 15 = .ok (.getfield 9, 3) := by decide +kernel
theorem dX1_timesStep_18 : decode cX1_timesStep 18 = .ok (.iconst 3, 1) := by decide +kernel
theorem dX1_timesStep_19 : decode cX1_timesStep 19 = .ok (.iload_n 1, 1) := by decide +kernel
theorem dX1_timesStep_20 : decode cX1_timesStep 20 = .ok (.imul, 1) := by decide +kernel
theorem dX1_timesStep_21 : decode cX1_timesStep 21 = .ok (.iload 5, 2) := by decide +kernel
theorem dX1_timesStep_23 : decode cX1_timesStep 23 = .ok (.iadd, 1) := by decide +kernel
theorem dX1_timesStep_24 : decode cX1_timesStep 24 = .ok (.iaload, 1) := by decide +kernel
theorem dX1_timesStep_25 : decode cX1_timesStep 25 = .ok (.aload_n 2, 1) := by decide +kernel
theorem dX1_timesStep_26 : decode cX1_timesStep 26 = .ok (.getfield 48, 3) := by decide +kernel
theorem dX1_timesStep_29 : decode cX1_timesStep 29 = .ok (.iconst 3, 1) := by decide +kernel
theorem dX1_timesStep_30 : decode cX1_timesStep 30 = .ok (.iload_n 3, 1) := by decide +kernel
theorem dX1_timesStep_31 : decode cX1_timesStep 31 = .ok (.imul, 1) := by decide +kernel
theorem dX1_timesStep_32 : decode cX1_timesStep 32 = .ok (.iload 5, 2) := by decide +kernel
theorem dX1_timesStep_34 : decode cX1_timesStep 34 = .ok (.iadd, 1) := by decide +kernel
theorem dX1_timesStep_35 : decode cX1_timesStep 35 = .ok (.iaload, 1) := by decide +kernel
theorem dX1_timesStep_36 : decode cX1_timesStep 36 = .ok (.imul, 1) := by decide +kernel
theorem dX1_timesStep_37 : decode cX1_timesStep 37 = .ok (.iadd, 1) := by decide +kernel
theorem dX1_timesStep_38 : decode cX1_timesStep 38 = .ok (.istore 4, 2) := by decide +kernel
theorem dX1_timesStep_40 : decode cX1_timesStep 40 = .ok (.iinc 5 1, 3) := by decide +kernel
theorem dX1_timesStep_43 : decode cX1_timesStep 43 = .ok (.goto (-37), 3) := by decide +kernel
theorem dX1_timesStep_46 : decode cX1_timesStep 46 = .ok (.iload 4, 2) := by decide +kernel
theorem dX1_timesStep_48 : decode cX1_timesStep 48 = .ok (.ireturn, 1) := by decide +kernel
theorem dX1_tooEarly_0 : decode cX1_tooEarly 0 = .ok (.iconst 0, 1) := by decide +kernel
theorem dX1_tooEarly_1 : decode cX1_tooEarly 1 = .ok (.istore_n 2, 1) := by decide +kernel
theorem dX1_tooEarly_2 : decode cX1_tooEarly 2 = .ok (.iload_n 2, 1) := by decide +kernel
theorem dX1_tooEarly_3 : decode cX1_tooEarly 3 = .ok (.aload_n 1, 1) := by decide +kernel
theorem dX1_tooEarly_4 : decode cX1_tooEarly 4 = .ok (.getfield 51, 3) := by decide +kernel
theorem dX1_tooEarly_7 : decode cX1_tooEarly 7 = .ok (.if_icmp .ge 29, 3) := by decide +kernel
theorem dX1_tooEarly_10 : decode cX1_tooEarly 10 = .ok (.aload_n 1, 1) := by decide +kernel
theorem dX1_tooEarly_11 : decode cX1_tooEarly 11 = .ok (.iload_n 2, 1) := by decide +kernel
theorem dX1_tooEarly_12 : decode cX1_tooEarly 12 = .ok (.invokevirtual 54, 3) := by decide +kernel
theorem dX1_tooEarly_15 : decode cX1_tooEarly 15 = .ok (.ifCond .eq 15, 3) := by decide +kernel
theorem dX1_tooEarly_18 : decode cX1_tooEarly 18 = .ok (.aload_n 0, 1) := by decide +kernel
theorem dX1_tooEarly_19 : decode cX1_tooEarly 19 = .ok (.aload_n 1, 1) := by decide +kernel
theorem dX1_tooEarly_20 : decode cX1_tooEarly 20 = .ok (.iload_n 2, 1) := by decide +kernel
theorem dX1_tooEarly_21 : decode cX1_tooEarly 21 = .ok (.invokevirtual 58, 3) := by decide +kernel
theorem dX1_tooEarly_24 : decode cX1_tooEarly 24 = .ok (.iconst 1, 1) := by decide +kernel
theorem dX1_tooEarly_25 : decode cX1_tooEarly 25 = .ok (.if_icmp .ge 5, 3) := by decide +kernel
theorem dX1_tooEarly_28 : decode cX1_tooEarly 28 = .ok (.iload_n 2, 1) := by decide +kernel
theorem dX1_tooEarly_29 : decode cX1_tooEarly 29 = .ok (.ireturn, 1) := by decide +kernel
theorem dX1_tooEarly_30 : decode cX1_tooEarly 30 = .ok (.iinc 2 1, 3) := by decide +kernel
theorem dX1_tooEarly_33 : decode cX1_tooEarly 33 = .ok (.goto (-31), 3) := by decide +kernel
theorem dX1_tooEarly_36 : decode cX1_tooEarly 36 = .ok (.iconst (-1), 1) := by decide +kernel
theorem dX1_tooEarly_37 : decode cX1_tooEarly 37 = .ok (.ireturn, 1) := by decide +kernel
theorem dX1_tooFar_0 : decode cX1_tooFar 0 = .ok (.iconst 0, 1) := by decide +kernel
theorem dX1_tooFar_1 : decode cX1_tooFar 1 = .ok (.istore_n 2, 1) := by decide +kernel
theorem dX1_tooFar_2 : decode cX1_tooFar 2 = .ok (.iload_n 2, 1) := by decide +kernel
theorem dX1_tooFar_3 : decode cX1_tooFar 3 = .ok (.aload_n 1, 1) := by decide +kernel
theorem dX1_tooFar_4 : decode cX1_tooFar 4 = .ok (.getfield 51, 3) := by decide +kernel
theorem dX1_tooFar_7 : decode cX1_tooFar 7 = .ok (.if_icmp .ge 34, 3) := by decide +kernel
theorem dX1_tooFar_10 : decode cX1_tooFar 10 = .ok (.aload_n 1, 1) := by decide +kernel
theorem dX1_tooFar_11 : decode cX1_tooFar 11 = .ok (.iload_n 2, 1) := by decide +kernel
theorem dX1_tooFar_12 : decode cX1_tooFar 12 = .ok (.invokevirtual 54, 3) := by decide +kernel
theorem dX1_tooFar_15 : decode cX1_tooFar 15 = .ok (.ifCond .eq 20, 3) := by decide +kernel
theorem dX1_tooFar_18 : decode cX1_tooFar 18 = .ok (.aload_n 0, 1) := by decide +kernel
theorem dX1_tooFar_19 : decode cX1_tooFar 19 = .ok (.aload_n 1, 1) := by decide +kernel
theorem dX1_tooFar_20 : decode cX1_tooFar 20 = .ok (.iload_n 2, 1) := by decide +kernel
theorem dX1_tooFar_21 : decode cX1_tooFar 21 = .ok (.invokevirtual 62, 3) := by decide +kernel
theorem dX1_tooFar_24 : decode cX1_tooFar 24 = .ok (.aload_n 0, 1) := by decide +kernel
theorem dX1_tooFar_25 : decode cX1_tooFar 25 = .ok (.aload_n 1, 1) := by decide +kernel
theorem dX1_tooFar_26 : decode cX1_tooFar 26 = .ok (.iload_n 2, 1) := by decide +kernel
theorem dX1_tooFar_27 : decode cX1_tooFar 27 = .ok (.invokevirtual 58, 3) := by decide +kernel
theorem dX1_tooFar_30 : decode cX1_tooFar 30 = .ok (.if_icmp .le 5, 3) := by decide +kernel
theorem dX1_tooFar_33 : decode cX1_tooFar 33 = .ok (.iload_n 2, 1) := by decide +kernel
theorem dX1_tooFar_34 : decode cX1_tooFar 34 = .ok (.ireturn, 1) := by decide +kernel
theorem dX1_tooFar_35 : decode cX1_tooFar 35 = .ok (.iinc 2 1, 3) := by decide +kernel
theorem dX1_tooFar_38 : decode cX1_tooFar 38 = .ok (.goto (-36), 3) := by decide +kernel
theorem dX1_tooFar_41 : decode cX1_tooFar 41 = .ok (.iconst (-1), 1) := by decide +kernel
theorem dX1_tooFar_42 : decode cX1_tooFar 42 = .ok (.ireturn, 1) := by decide +kernel
