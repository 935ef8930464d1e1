set_option maxRecDepth 100000 in
set_option maxHeartbeats 4000000 in
theorem ct_X1_put (w : WLD) (M : Mem) (h q : Nat) (a b c : Int) (hpl : pl h) (hq : q < 3) : CtV w yX1_put cX1_put 5 rm_X1_put [.ref (wa w h), .int (iZ ((q : Nat) : Int)), .int (iZ a), .int (iZ b), .int (iZ c)] M (fun M1 => M1 = ups M (h + 1) (up1 (up1 (up1 (M (h + 1)) (3 * q) a) (3 * q + 1) b) (3 * q + 2) c)) := by
  refine CtV.of (by decide) (Nat.le_of_ble_eq_true rfl) rfl rfl ?_
  intro k hkL C RT
  show WW w k 0 [(0, .ref (wa w h)), (1, .int (iZ ((q : Nat) : Int))), (2, .int (iZ a)), (3, .int (iZ b)), (4, .int (iZ c))] [] M
  refine ww_aload_n C dX1_put_0 0 rfl ?_
  refine gt_X1_9 C hpl dX1_put_1 ?_
  refine ww_iconst C dX1_put_4 ?_
  refine ww_iload_n C dX1_put_5 1 rfl ?_
  refine ww_imul C dX1_put_6 ?_
  refine ww_iload_n C dX1_put_7 2 rfl ?_
  refine as_pl C hpl (3 * q) (by omega) (by omega) dX1_put_8 ?_
  refine ww_aload_n C dX1_put_9 0 rfl ?_
  refine gt_X1_9 C hpl dX1_put_10 ?_
  refine ww_iconst C dX1_put_13 ?_
  refine ww_iload_n C dX1_put_14 1 rfl ?_
  refine ww_imul C dX1_put_15 ?_
  refine ww_iconst C dX1_put_16 ?_
  refine ww_iadd C dX1_put_17 ?_
  refine ww_iload_n C dX1_put_18 3 rfl ?_
  refine as_pl C hpl (3 * q + 1) (by omega) (by omega) dX1_put_19 ?_
  refine ww_mem (M1 := ups M (h + 1) (up1 (up1 (M (h + 1)) (3 * q) a) (3 * q + 1) b)) (by rw [ups_s]; exact ups_ups) ?_
  refine ww_aload_n C dX1_put_20 0 rfl ?_
  refine gt_X1_9 C hpl dX1_put_21 ?_
  refine ww_iconst C dX1_put_24 ?_
  refine ww_iload_n C dX1_put_25 1 rfl ?_
  refine ww_imul C dX1_put_26 ?_
  refine ww_iconst C dX1_put_27 ?_
  refine ww_iadd C dX1_put_28 ?_
  refine ww_iload C dX1_put_29 4 rfl ?_
  refine as_pl C hpl (3 * q + 2) (by omega) (by omega) dX1_put_31 ?_
  refine ww_mem (M1 := ups M (h + 1) (up1 (up1 (up1 (M (h + 1)) (3 * q) a) (3 * q + 1) b) (3 * q + 2) c)) (by rw [ups_s]; exact ups_ups) ?_
  exact RT _ _ _ dX1_put_32 (rfl)
set_option maxRecDepth 100000 in
set_option maxHeartbeats 4000000 in
theorem ct_X1_takeNumbers_10 (w : WLD) (M : Mem)  : CtV w yX1_takeNumbers cX1_takeNumbers 2 rm_X1_takeNumbers [.ref (wa w 10), .ref (wa w 20)] M (fun M1 => M1 = ups M 11 (fun j => if j < 9 then M 21 j else M 11 j)) := by
  refine CtV.of (by decide) (Nat.le_of_ble_eq_true rfl) rfl rfl ?_
  intro k hkL C RT
  show WW w k 0 [(0, .ref (wa w 10)), (1, .ref (wa w 20))] [] M
  refine ww_aload_n C dX1_takeNumbers_0 1 rfl ?_
  refine gt_X1_9 C (Or.inr (Or.inl rfl)) dX1_takeNumbers_1 ?_
  refine ww_iconst C dX1_takeNumbers_4 ?_
  refine ww_aload_n C dX1_takeNumbers_5 0 rfl ?_
  refine gt_X1_9 C (Or.inl rfl) dX1_takeNumbers_6 ?_
  refine ww_iconst C dX1_takeNumbers_9 ?_
  refine ww_aload_n C dX1_takeNumbers_10 0 rfl ?_
  refine gt_X1_9 C (Or.inl rfl) dX1_takeNumbers_11 ?_
  refine ww_alen C 11 (by decide) (N := 9) rfl dX1_takeNumbers_14 ?_
  refine ww_copy9 C (h0 := 21) (h1 := 11) (by decide) (by decide) ml_X1_19 (fun _ => rfl) (fun _ => rfl) (by decide) dX1_takeNumbers_15 ?_
  exact RT _ _ _ dX1_takeNumbers_18 (rfl)
set_option maxRecDepth 100000 in
set_option maxHeartbeats 4000000 in
theorem ct_X1_takeNumbers_20 (w : WLD) (M : Mem)  : CtV w yX1_takeNumbers cX1_takeNumbers 2 rm_X1_takeNumbers [.ref (wa w 20), .ref (wa w 22)] M (fun M1 => M1 = ups M 21 (fun j => if j < 9 then M 23 j else M 21 j)) := by
  refine CtV.of (by decide) (Nat.le_of_ble_eq_true rfl) rfl rfl ?_
  intro k hkL C RT
  show WW w k 0 [(0, .ref (wa w 20)), (1, .ref (wa w 22))] [] M
  refine ww_aload_n C dX1_takeNumbers_0 1 rfl ?_
  refine gt_X1_9 C (Or.inr (Or.inr rfl)) dX1_takeNumbers_1 ?_
  refine ww_iconst C dX1_takeNumbers_4 ?_
  refine ww_aload_n C dX1_takeNumbers_5 0 rfl ?_
  refine gt_X1_9 C (Or.inr (Or.inl rfl)) dX1_takeNumbers_6 ?_
  refine ww_iconst C dX1_takeNumbers_9 ?_
  refine ww_aload_n C dX1_takeNumbers_10 0 rfl ?_
  refine gt_X1_9 C (Or.inr (Or.inl rfl)) dX1_takeNumbers_11 ?_
  refine ww_alen C 21 (by decide) (N := 9) rfl dX1_takeNumbers_14 ?_
  refine ww_copy9 C (h0 := 23) (h1 := 21) (by decide) (by decide) ml_X1_19 (fun _ => rfl) (fun _ => rfl) (by decide) dX1_takeNumbers_15 ?_
  exact RT _ _ _ dX1_takeNumbers_18 (rfl)
set_option maxRecDepth 100000 in
set_option maxHeartbeats 4000000 in
theorem ct_X1_times (w : WLD) (M : Mem) (h q : Nat) (a b c : Int) (hpl : pl h) (hq : q < 3) : CtI w yX1_times cX1_times 6 (some .int) rm_X1_times [.ref (wa w h), .int (iZ ((q : Nat) : Int)), .int (iZ a), .int (iZ b), .int (iZ c)] M (fun z M1 => z = dotZ (M (h + 1)) q a b c ∧ M1 = M) := by
  refine CtI.of (by decide) (Nat.le_of_ble_eq_true rfl) rfl rfl ?_
  intro k hkL C RT
  show WW w k 0 [(0, .ref (wa w h)), (1, .int (iZ ((q : Nat) : Int))), (2, .int (iZ a)), (3, .int (iZ b)), (4, .int (iZ c))] [] M
  refine ww_iconst C dX1_times_0 ?_
  refine ww_iload_n C dX1_times_1 1 rfl ?_
  refine ww_imul C dX1_times_2 ?_
  refine ww_istore C dX1_times_3 (lv' := [(5, .int (iZ (3 * ((q : Nat) : Int)))), (0, .ref (wa w h)), (1, .int (iZ ((q : Nat) : Int))), (2, .int (iZ a)), (3, .int (iZ b)), (4, .int (iZ c))]) (by rw [hkL]; decide) rfl ?_
  refine ww_aload_n C dX1_times_5 1 rfl ?_
  refine gt_X1_9 C hpl dX1_times_6 ?_
  refine ww_iload C dX1_times_9 0 rfl ?_
  refine al_pl C hpl (3 * q) (z := (M (h + 1)) (3 * q)) (by omega) (by omega) rfl dX1_times_11 ?_
  refine ww_iload_n C dX1_times_12 3 rfl ?_
  refine ww_imul C dX1_times_13 ?_
  refine ww_aload_n C dX1_times_14 1 rfl ?_
  refine gt_X1_9 C hpl dX1_times_15 ?_
  refine ww_iload C dX1_times_18 0 rfl ?_
  refine ww_iconst C dX1_times_20 ?_
  refine ww_iadd C dX1_times_21 ?_
  refine al_pl C hpl (3 * q + 1) (z := (M (h + 1)) (3 * q + 1)) (by omega) (by omega) rfl dX1_times_22 ?_
  refine ww_iload_n C dX1_times_23 4 rfl ?_
  refine ww_imul C dX1_times_24 ?_
  refine ww_iadd C dX1_times_25 ?_
  refine ww_aload_n C dX1_times_26 1 rfl ?_
  refine gt_X1_9 C hpl dX1_times_27 ?_
  refine ww_iload C dX1_times_30 0 rfl ?_
  refine ww_iconst C dX1_times_32 ?_
  refine ww_iadd C dX1_times_33 ?_
  refine al_pl C hpl (3 * q + 2) (z := (M (h + 1)) (3 * q + 2)) (by omega) (by omega) rfl dX1_times_34 ?_
  refine ww_iload C dX1_times_35 5 rfl ?_
  refine ww_imul C dX1_times_37 ?_
  refine ww_iadd C dX1_times_38 ?_
  exact RT _ _ _ _ dX1_times_39 (⟨rfl, rfl⟩)
set_option maxRecDepth 100000 in
set_option maxHeartbeats 4000000 in
theorem ct_X1_timesCode (w : WLD) (M : Mem) (h q p : Nat) (hpl : pl h) (hq : q < 3) (hp : p < 512) : CtI w yX1_timesCode cX1_timesCode 3 (some .int) rm_X1_timesCode [.ref (wa w h), .int (iZ ((q : Nat) : Int)), .int (iZ ((p : Nat) : Int))] M (fun z M1 => z = dotP (M (h + 1)) q p ∧ M1 = M) := by
  refine CtI.of (by decide) (Nat.le_of_ble_eq_true rfl) rfl rfl ?_
  intro k hkL C RT
  show WW w k 0 [(0, .ref (wa w h)), (1, .int (iZ ((q : Nat) : Int))), (2, .int (iZ ((p : Nat) : Int)))] [] M
  refine ww_aload_n C dX1_timesCode_0 0 rfl ?_
  refine ww_iload_n C dX1_timesCode_1 1 rfl ?_
  refine ww_iload_n C dX1_timesCode_2 2 rfl ?_
  refine ww_bipush C dX1_timesCode_3 (by decide) ?_
  refine ww_ishr6 C dX1_timesCode_5 p rfl (by omega) ?_
  refine ww_iload_n C dX1_timesCode_6 2 rfl ?_
  refine ww_iconst C dX1_timesCode_7 ?_
  refine ww_ishr3 C dX1_timesCode_8 p rfl (by omega) ?_
  refine ww_bipush C dX1_timesCode_9 (by decide) ?_
  refine ww_iand7 C dX1_timesCode_11 (p / 8) rfl (by omega) ?_
  refine ww_iload_n C dX1_timesCode_12 2 rfl ?_
  refine ww_bipush C dX1_timesCode_13 (by decide) ?_
  refine ww_iand7 C dX1_timesCode_15 p rfl (by omega) ?_
  refine ww_callV C (As := [.int (iZ ((q : Nat) : Int)), .int (iZ ((p / 64 : Nat) : Int)), .int (iZ (((p / 8) % 8 : Nat) : Int)), .int (iZ ((p % 8 : Nat) : Int))]) h (pl_lt hpl) (ct_X1_times w M h q ((p / 64 : Nat) : Int) (((p / 8) % 8 : Nat) : Int) ((p % 8 : Nat) : Int) (hpl) (by omega)) mf_X1_times ml_X1_25 (pl_cell hpl _) rfl (by decide) rfl rfl (Nat.le_of_ble_eq_true rfl) dX1_timesCode_16 (fun z_16 M_16 hp_16 => ?_)
  rw [hp_16.1, hp_16.2]
  exact RT _ _ _ _ dX1_timesCode_19 (⟨rfl, rfl⟩)
set_option maxRecDepth 100000 in
set_option maxHeartbeats 4000000 in
theorem ct_X1_least (w : WLD) (M : Mem) (h q : Nat) (hpl : pl h) (hnu : NuOk (M (h + 1))) (hq : q < 3) (hs : SzOk (M 2)) : CtI w yX1_least cX1_least 5 (some .int) rm_X1_least [.ref (wa w h), .int (iZ ((q : Nat) : Int)), .ref (wa w 1)] M (fun z M1 => z = lesZ (M (h + 1)) (M 2) q ∧ M1 = M) := by
  refine CtI.of (by decide) (Nat.le_of_ble_eq_true rfl) rfl rfl ?_
  intro k hkL C RT
  have n0 := hnu (3 * q) (by omega)
  have n1 := hnu (3 * q + 1) (by omega)
  have n2 := hnu (3 * q + 2) (by omega)
  have c0 := mulb3 (b := M 2 0 - 1) n0.1 n0.2 (by omega) (by omega)
  have c1 := mulb3 (b := M 2 1 - 1) n1.1 n1.2 (by omega) (by omega)
  have c2 := mulb3 (b := M 2 2 - 1) n2.1 n2.2 (by omega) (by omega)
  show WW w k 0 [(0, .ref (wa w h)), (1, .int (iZ ((q : Nat) : Int))), (2, .ref (wa w 1))] [] M
  refine ww_iconst C dX1_least_0 ?_
  refine ww_istore_n C dX1_least_1 (lv' := [(3, .int (iZ 0)), (0, .ref (wa w h)), (1, .int (iZ ((q : Nat) : Int))), (2, .ref (wa w 1))]) (by rw [hkL]; decide) rfl ?_
  refine ww_iconst C dX1_least_2 ?_
  refine ww_istore C dX1_least_3 (lv' := [(4, .int (iZ 0)), (3, .int (iZ 0)), (0, .ref (wa w h)), (1, .int (iZ ((q : Nat) : Int))), (2, .ref (wa w 1))]) (by rw [hkL]; decide) rfl ?_
  refine ww_iload C dX1_least_5 0 rfl ?_
  refine ww_iconst C dX1_least_7 ?_
  refine ww_icmp_ge C 45 dX1_least_8 (by decide) (by omega) (by omega) (fun c_8 => ?_) (fun c_8 => ?_)
  · exact absurd c_8 (by decide)
  · refine ww_iload_n C dX1_least_11 1 rfl ?_
    refine ww_iconst C dX1_least_12 ?_
    refine ww_aload_n C dX1_least_13 2 rfl ?_
    refine gt_X1_9 C hpl dX1_least_14 ?_
    refine ww_iconst C dX1_least_17 ?_
    refine ww_iload_n C dX1_least_18 3 rfl ?_
    refine ww_imul C dX1_least_19 ?_
    refine ww_iload C dX1_least_20 0 rfl ?_
    refine ww_iadd C dX1_least_22 ?_
    refine al_pl C hpl (3 * q) (z := (M (h + 1)) (3 * q)) (by omega) (by omega) rfl dX1_least_23 ?_
    refine ww_aload_n C dX1_least_24 4 rfl ?_
    refine gt_X1_29 C dX1_least_25 ?_
    refine ww_iload C dX1_least_28 0 rfl ?_
    refine al_2 C 0 (z := M 2 0) rfl (by omega) rfl dX1_least_30 ?_
    refine ww_iconst C dX1_least_31 ?_
    refine ww_isub C dX1_least_32 ?_
    refine ww_imul C dX1_least_33 ?_
    refine ww_min C ml_X1_34 (by omega) (by omega) (by decide) (Nat.le_of_ble_eq_true rfl) dX1_least_34 ?_
    refine ww_iadd C dX1_least_37 ?_
    refine ww_istore_n C dX1_least_38 (lv' := [(3, .int (iZ (0 + (min 0 (((M (h + 1)) (3 * q)) * ((M 2 0) - 1)))))), (4, .int (iZ 0)), (0, .ref (wa w h)), (1, .int (iZ ((q : Nat) : Int))), (2, .ref (wa w 1))]) (by rw [hkL]; decide) rfl ?_
    refine ww_iinc2 C dX1_least_39 1 rfl (b := 1) (by omega) (lv' := [(4, .int (iZ 1)), (3, .int (iZ (0 + (min 0 (((M (h + 1)) (3 * q)) * ((M 2 0) - 1)))))), (0, .ref (wa w h)), (1, .int (iZ ((q : Nat) : Int))), (2, .ref (wa w 1))]) (by rw [hkL]; decide) rfl ?_
    refine ww_goto C 5 dX1_least_42 (by decide) ?_
    refine ww_iload C dX1_least_5 0 rfl ?_
    refine ww_iconst C dX1_least_7 ?_
    refine ww_icmp_ge C 45 dX1_least_8 (by decide) (by omega) (by omega) (fun c_8 => ?_) (fun c_8 => ?_)
    · exact absurd c_8 (by decide)
    · refine ww_iload_n C dX1_least_11 1 rfl ?_
      refine ww_iconst C dX1_least_12 ?_
      refine ww_aload_n C dX1_least_13 2 rfl ?_
      refine gt_X1_9 C hpl dX1_least_14 ?_
      refine ww_iconst C dX1_least_17 ?_
      refine ww_iload_n C dX1_least_18 3 rfl ?_
      refine ww_imul C dX1_least_19 ?_
      refine ww_iload C dX1_least_20 0 rfl ?_
      refine ww_iadd C dX1_least_22 ?_
      refine al_pl C hpl (3 * q + 1) (z := (M (h + 1)) (3 * q + 1)) (by omega) (by omega) rfl dX1_least_23 ?_
      refine ww_aload_n C dX1_least_24 4 rfl ?_
      refine gt_X1_29 C dX1_least_25 ?_
      refine ww_iload C dX1_least_28 0 rfl ?_
      refine al_2 C 1 (z := M 2 1) rfl (by omega) rfl dX1_least_30 ?_
      refine ww_iconst C dX1_least_31 ?_
      refine ww_isub C dX1_least_32 ?_
      refine ww_imul C dX1_least_33 ?_
      refine ww_min C ml_X1_34 (by omega) (by omega) (by decide) (Nat.le_of_ble_eq_true rfl) dX1_least_34 ?_
      refine ww_iadd C dX1_least_37 ?_
      refine ww_istore_n C dX1_least_38 (lv' := [(3, .int (iZ ((0 + (min 0 (((M (h + 1)) (3 * q)) * ((M 2 0) - 1)))) + (min 0 (((M (h + 1)) (3 * q + 1)) * ((M 2 1) - 1)))))), (4, .int (iZ 1)), (0, .ref (wa w h)), (1, .int (iZ ((q : Nat) : Int))), (2, .ref (wa w 1))]) (by rw [hkL]; decide) rfl ?_
      refine ww_iinc2 C dX1_least_39 1 rfl (b := 2) (by omega) (lv' := [(4, .int (iZ 2)), (3, .int (iZ ((0 + (min 0 (((M (h + 1)) (3 * q)) * ((M 2 0) - 1)))) + (min 0 (((M (h + 1)) (3 * q + 1)) * ((M 2 1) - 1)))))), (0, .ref (wa w h)), (1, .int (iZ ((q : Nat) : Int))), (2, .ref (wa w 1))]) (by rw [hkL]; decide) rfl ?_
      refine ww_goto C 5 dX1_least_42 (by decide) ?_
      refine ww_iload C dX1_least_5 0 rfl ?_
      refine ww_iconst C dX1_least_7 ?_
      refine ww_icmp_ge C 45 dX1_least_8 (by decide) (by omega) (by omega) (fun c_8 => ?_) (fun c_8 => ?_)
      · exact absurd c_8 (by decide)
      · refine ww_iload_n C dX1_least_11 1 rfl ?_
        refine ww_iconst C dX1_least_12 ?_
        refine ww_aload_n C dX1_least_13 2 rfl ?_
        refine gt_X1_9 C hpl dX1_least_14 ?_
        refine ww_iconst C dX1_least_17 ?_
        refine ww_iload_n C dX1_least_18 3 rfl ?_
        refine ww_imul C dX1_least_19 ?_
        refine ww_iload C dX1_least_20 0 rfl ?_
        refine ww_iadd C dX1_least_22 ?_
        refine al_pl C hpl (3 * q + 2) (z := (M (h + 1)) (3 * q + 2)) (by omega) (by omega) rfl dX1_least_23 ?_
        refine ww_aload_n C dX1_least_24 4 rfl ?_
        refine gt_X1_29 C dX1_least_25 ?_
        refine ww_iload C dX1_least_28 0 rfl ?_
        refine al_2 C 2 (z := M 2 2) rfl (by omega) rfl dX1_least_30 ?_
        refine ww_iconst C dX1_least_31 ?_
        refine ww_isub C dX1_least_32 ?_
        refine ww_imul C dX1_least_33 ?_
        refine ww_min C ml_X1_34 (by omega) (by omega) (by decide) (Nat.le_of_ble_eq_true rfl) dX1_least_34 ?_
        refine ww_iadd C dX1_least_37 ?_
        refine ww_istore_n C dX1_least_38 (lv' := [(3, .int (iZ (((0 + (min 0 (((M (h + 1)) (3 * q)) * ((M 2 0) - 1)))) + (min 0 (((M (h + 1)) (3 * q + 1)) * ((M 2 1) - 1)))) + (min 0 (((M (h + 1)) (3 * q + 2)) * ((M 2 2) - 1)))))), (4, .int (iZ 2)), (0, .ref (wa w h)), (1, .int (iZ ((q : Nat) : Int))), (2, .ref (wa w 1))]) (by rw [hkL]; decide) rfl ?_
        refine ww_iinc2 C dX1_least_39 1 rfl (b := 3) (by omega) (lv' := [(4, .int (iZ 3)), (3, .int (iZ (((0 + (min 0 (((M (h + 1)) (3 * q)) * ((M 2 0) - 1)))) + (min 0 (((M (h + 1)) (3 * q + 1)) * ((M 2 1) - 1)))) + (min 0 (((M (h + 1)) (3 * q + 2)) * ((M 2 2) - 1)))))), (0, .ref (wa w h)), (1, .int (iZ ((q : Nat) : Int))), (2, .ref (wa w 1))]) (by rw [hkL]; decide) rfl ?_
        refine ww_goto C 5 dX1_least_42 (by decide) ?_
        refine ww_iload C dX1_least_5 0 rfl ?_
        refine ww_iconst C dX1_least_7 ?_
        refine ww_icmp_ge C 45 dX1_least_8 (by decide) (by omega) (by omega) (fun c_8 => ?_) (fun c_8 => ?_)
        · refine ww_iload_n C dX1_least_45 1 rfl ?_
          exact RT _ _ _ _ dX1_least_46 (⟨by unfold lesZ; omega, rfl⟩)
        · exact absurd c_8 (by decide)
set_option maxRecDepth 100000 in
set_option maxHeartbeats 4000000 in
theorem ct_X1_beatsUnfolded (w : WLD) (M : Mem) (h : Nat) (hpl : pl h) (hnu : NuOk (M (h + 1))) (hs : SzOk (M 2)) : CtI w yX1_beatsUnfolded cX1_beatsUnfolded 4 (some .int) rm_X1_beatsUnfolded [.ref (wa w h), .ref (wa w 1)] M (fun z M1 => z = buZ (M (h + 1)) (M 2) ∧ M1 = M) := by
  refine CtI.of (by decide) (Nat.le_of_ble_eq_true rfl) rfl rfl ?_
  intro k hkL C RT
  have n0 := hnu 0 (by omega)
  have n1 := hnu 1 (by omega)
  have n2 := hnu 2 (by omega)
  show WW w k 0 [(0, .ref (wa w h)), (1, .ref (wa w 1))] [] M
  refine ww_iconst C dX1_beatsUnfolded_0 ?_
  refine ww_istore_n C dX1_beatsUnfolded_1 (lv' := [(2, .int (iZ 0)), (0, .ref (wa w h)), (1, .ref (wa w 1))]) (by rw [hkL]; decide) rfl ?_
  refine ww_iconst C dX1_beatsUnfolded_2 ?_
  refine ww_istore_n C dX1_beatsUnfolded_3 (lv' := [(3, .int (iZ 0)), (2, .int (iZ 0)), (0, .ref (wa w h)), (1, .ref (wa w 1))]) (by rw [hkL]; decide) rfl ?_
  refine ww_iload_n C dX1_beatsUnfolded_4 0 rfl ?_
  refine ww_iconst C dX1_beatsUnfolded_5 ?_
  refine ww_icmp_ge C 36 dX1_beatsUnfolded_6 (by decide) (by omega) (by omega) (fun c_6 => ?_) (fun c_6 => ?_)
  · exact absurd c_6 (by decide)
  · refine ww_iload_n C dX1_beatsUnfolded_9 1 rfl ?_
    refine ww_aload_n C dX1_beatsUnfolded_10 2 rfl ?_
    refine gt_X1_9 C hpl dX1_beatsUnfolded_11 ?_
    refine ww_iload_n C dX1_beatsUnfolded_14 0 rfl ?_
    refine al_pl C hpl 0 (z := (M (h + 1)) 0) rfl (by omega) rfl dX1_beatsUnfolded_15 ?_
    refine ww_abs C ml_X1_40 (by omega) (by decide) (Nat.le_of_ble_eq_true rfl) dX1_beatsUnfolded_16 ?_
    refine ww_aload_n C dX1_beatsUnfolded_19 3 rfl ?_
    refine gt_X1_29 C dX1_beatsUnfolded_20 ?_
    refine ww_iload_n C dX1_beatsUnfolded_23 0 rfl ?_
    refine al_2 C 0 (z := M 2 0) rfl (by omega) rfl dX1_beatsUnfolded_24 ?_
    refine ww_iconst C dX1_beatsUnfolded_25 ?_
    refine ww_isub C dX1_beatsUnfolded_26 ?_
    refine ww_imul C dX1_beatsUnfolded_27 ?_
    refine ww_iadd C dX1_beatsUnfolded_28 ?_
    refine ww_istore_n C dX1_beatsUnfolded_29 (lv' := [(2, .int (iZ (0 + ((aZ ((M (h + 1)) 0)) * ((M 2 0) - 1))))), (3, .int (iZ 0)), (0, .ref (wa w h)), (1, .ref (wa w 1))]) (by rw [hkL]; decide) rfl ?_
    refine ww_iinc2 C dX1_beatsUnfolded_30 1 rfl (b := 1) (by omega) (lv' := [(3, .int (iZ 1)), (2, .int (iZ (0 + ((aZ ((M (h + 1)) 0)) * ((M 2 0) - 1))))), (0, .ref (wa w h)), (1, .ref (wa w 1))]) (by rw [hkL]; decide) rfl ?_
    refine ww_goto C 4 dX1_beatsUnfolded_33 (by decide) ?_
    refine ww_iload_n C dX1_beatsUnfolded_4 0 rfl ?_
    refine ww_iconst C dX1_beatsUnfolded_5 ?_
    refine ww_icmp_ge C 36 dX1_beatsUnfolded_6 (by decide) (by omega) (by omega) (fun c_6 => ?_) (fun c_6 => ?_)
    · exact absurd c_6 (by decide)
    · refine ww_iload_n C dX1_beatsUnfolded_9 1 rfl ?_
      refine ww_aload_n C dX1_beatsUnfolded_10 2 rfl ?_
      refine gt_X1_9 C hpl dX1_beatsUnfolded_11 ?_
      refine ww_iload_n C dX1_beatsUnfolded_14 0 rfl ?_
      refine al_pl C hpl 1 (z := (M (h + 1)) 1) rfl (by omega) rfl dX1_beatsUnfolded_15 ?_
      refine ww_abs C ml_X1_40 (by omega) (by decide) (Nat.le_of_ble_eq_true rfl) dX1_beatsUnfolded_16 ?_
      refine ww_aload_n C dX1_beatsUnfolded_19 3 rfl ?_
      refine gt_X1_29 C dX1_beatsUnfolded_20 ?_
      refine ww_iload_n C dX1_beatsUnfolded_23 0 rfl ?_
      refine al_2 C 1 (z := M 2 1) rfl (by omega) rfl dX1_beatsUnfolded_24 ?_
      refine ww_iconst C dX1_beatsUnfolded_25 ?_
      refine ww_isub C dX1_beatsUnfolded_26 ?_
      refine ww_imul C dX1_beatsUnfolded_27 ?_
      refine ww_iadd C dX1_beatsUnfolded_28 ?_
      refine ww_istore_n C dX1_beatsUnfolded_29 (lv' := [(2, .int (iZ ((0 + ((aZ ((M (h + 1)) 0)) * ((M 2 0) - 1))) + ((aZ ((M (h + 1)) 1)) * ((M 2 1) - 1))))), (3, .int (iZ 1)), (0, .ref (wa w h)), (1, .ref (wa w 1))]) (by rw [hkL]; decide) rfl ?_
      refine ww_iinc2 C dX1_beatsUnfolded_30 1 rfl (b := 2) (by omega) (lv' := [(3, .int (iZ 2)), (2, .int (iZ ((0 + ((aZ ((M (h + 1)) 0)) * ((M 2 0) - 1))) + ((aZ ((M (h + 1)) 1)) * ((M 2 1) - 1))))), (0, .ref (wa w h)), (1, .ref (wa w 1))]) (by rw [hkL]; decide) rfl ?_
      refine ww_goto C 4 dX1_beatsUnfolded_33 (by decide) ?_
      refine ww_iload_n C dX1_beatsUnfolded_4 0 rfl ?_
      refine ww_iconst C dX1_beatsUnfolded_5 ?_
      refine ww_icmp_ge C 36 dX1_beatsUnfolded_6 (by decide) (by omega) (by omega) (fun c_6 => ?_) (fun c_6 => ?_)
      · exact absurd c_6 (by decide)
      · refine ww_iload_n C dX1_beatsUnfolded_9 1 rfl ?_
        refine ww_aload_n C dX1_beatsUnfolded_10 2 rfl ?_
        refine gt_X1_9 C hpl dX1_beatsUnfolded_11 ?_
        refine ww_iload_n C dX1_beatsUnfolded_14 0 rfl ?_
        refine al_pl C hpl 2 (z := (M (h + 1)) 2) rfl (by omega) rfl dX1_beatsUnfolded_15 ?_
        refine ww_abs C ml_X1_40 (by omega) (by decide) (Nat.le_of_ble_eq_true rfl) dX1_beatsUnfolded_16 ?_
        refine ww_aload_n C dX1_beatsUnfolded_19 3 rfl ?_
        refine gt_X1_29 C dX1_beatsUnfolded_20 ?_
        refine ww_iload_n C dX1_beatsUnfolded_23 0 rfl ?_
        refine al_2 C 2 (z := M 2 2) rfl (by omega) rfl dX1_beatsUnfolded_24 ?_
        refine ww_iconst C dX1_beatsUnfolded_25 ?_
        refine ww_isub C dX1_beatsUnfolded_26 ?_
        refine ww_imul C dX1_beatsUnfolded_27 ?_
        refine ww_iadd C dX1_beatsUnfolded_28 ?_
        refine ww_istore_n C dX1_beatsUnfolded_29 (lv' := [(2, .int (iZ (((0 + ((aZ ((M (h + 1)) 0)) * ((M 2 0) - 1))) + ((aZ ((M (h + 1)) 1)) * ((M 2 1) - 1))) + ((aZ ((M (h + 1)) 2)) * ((M 2 2) - 1))))), (3, .int (iZ 2)), (0, .ref (wa w h)), (1, .ref (wa w 1))]) (by rw [hkL]; decide) rfl ?_
        refine ww_iinc2 C dX1_beatsUnfolded_30 1 rfl (b := 3) (by omega) (lv' := [(3, .int (iZ 3)), (2, .int (iZ (((0 + ((aZ ((M (h + 1)) 0)) * ((M 2 0) - 1))) + ((aZ ((M (h + 1)) 1)) * ((M 2 1) - 1))) + ((aZ ((M (h + 1)) 2)) * ((M 2 2) - 1))))), (0, .ref (wa w h)), (1, .ref (wa w 1))]) (by rw [hkL]; decide) rfl ?_
        refine ww_goto C 4 dX1_beatsUnfolded_33 (by decide) ?_
        refine ww_iload_n C dX1_beatsUnfolded_4 0 rfl ?_
        refine ww_iconst C dX1_beatsUnfolded_5 ?_
        refine ww_icmp_ge C 36 dX1_beatsUnfolded_6 (by decide) (by omega) (by omega) (fun c_6 => ?_) (fun c_6 => ?_)
        · refine ww_iload_n C dX1_beatsUnfolded_36 1 rfl ?_
          refine ww_iconst C dX1_beatsUnfolded_37 ?_
          refine ww_iadd C dX1_beatsUnfolded_38 ?_
          exact RT _ _ _ _ dX1_beatsUnfolded_39 (⟨by unfold buZ; omega, rfl⟩)
        · exact absurd c_6 (by decide)
set_option maxRecDepth 100000 in
set_option maxHeartbeats 4000000 in
theorem ct_X1_timesStep (w : WLD) (M : Mem) (h q v : Nat) (hpl : pl h) (hq : q < 3) (hv : v < 4) : CtI w yX1_timesStep cX1_timesStep 6 (some .int) rm_X1_timesStep [.ref (wa w h), .int (iZ ((q : Nat) : Int)), .ref (wa w 1), .int (iZ ((v : Nat) : Int))] M (fun z M1 => z = stepB (M (h + 1)) (M 4) q v ∧ M1 = M) := by
  refine CtI.of (by decide) (Nat.le_of_ble_eq_true rfl) rfl rfl ?_
  intro k hkL C RT
  show WW w k 0 [(0, .ref (wa w h)), (1, .int (iZ ((q : Nat) : Int))), (2, .ref (wa w 1)), (3, .int (iZ ((v : Nat) : Int)))] [] M
  refine ww_iconst C dX1_timesStep_0 ?_
  refine ww_istore C dX1_timesStep_1 (lv' := [(4, .int (iZ 0)), (0, .ref (wa w h)), (1, .int (iZ ((q : Nat) : Int))), (2, .ref (wa w 1)), (3, .int (iZ ((v : Nat) : Int)))]) (by rw [hkL]; decide) rfl ?_
  refine ww_iconst C dX1_timesStep_3 ?_
  refine ww_istore C dX1_timesStep_4 (lv' := [(5, .int (iZ 0)), (4, .int (iZ 0)), (0, .ref (wa w h)), (1, .int (iZ ((q : Nat) : Int))), (2, .ref (wa w 1)), (3, .int (iZ ((v : Nat) : Int)))]) (by rw [hkL]; decide) rfl ?_
  refine ww_iload C dX1_timesStep_6 0 rfl ?_
  refine ww_iconst C dX1_timesStep_8 ?_
  refine ww_icmp_ge C 46 dX1_timesStep_9 (by decide) (by omega) (by omega) (fun c_9 => ?_) (fun c_9 => ?_)
  · exact absurd c_9 (by decide)
  · refine ww_iload C dX1_timesStep_12 1 rfl ?_
    refine ww_aload_n C dX1_timesStep_14 2 rfl ?_
    refine gt_X1_9 C hpl dX1_timesStep_15 ?_
    refine ww_iconst C dX1_timesStep_18 ?_
    refine ww_iload_n C dX1_timesStep_19 3 rfl ?_
    refine ww_imul C dX1_timesStep_20 ?_
    refine ww_iload C dX1_timesStep_21 0 rfl ?_
    refine ww_iadd C dX1_timesStep_23 ?_
    refine al_pl C hpl (3 * q) (z := (M (h + 1)) (3 * q)) (by omega) (by omega) rfl dX1_timesStep_24 ?_
    refine ww_aload_n C dX1_timesStep_25 4 rfl ?_
    refine gt_X1_48 C dX1_timesStep_26 ?_
    refine ww_iconst C dX1_timesStep_29 ?_
    refine ww_iload_n C dX1_timesStep_30 5 rfl ?_
    refine ww_imul C dX1_timesStep_31 ?_
    refine ww_iload C dX1_timesStep_32 0 rfl ?_
    refine ww_iadd C dX1_timesStep_34 ?_
    refine al_4 C (3 * v) (z := M 4 (3 * v)) (by omega) (by omega) rfl dX1_timesStep_35 ?_
    refine ww_imul C dX1_timesStep_36 ?_
    refine ww_iadd C dX1_timesStep_37 ?_
    refine ww_istore C dX1_timesStep_38 (lv' := [(4, .int (iZ (0 + (((M (h + 1)) (3 * q)) * (M 4 (3 * v)))))), (5, .int (iZ 0)), (0, .ref (wa w h)), (1, .int (iZ ((q : Nat) : Int))), (2, .ref (wa w 1)), (3, .int (iZ ((v : Nat) : Int)))]) (by rw [hkL]; decide) rfl ?_
    refine ww_iinc2 C dX1_timesStep_40 1 rfl (b := 1) (by omega) (lv' := [(5, .int (iZ 1)), (4, .int (iZ (0 + (((M (h + 1)) (3 * q)) * (M 4 (3 * v)))))), (0, .ref (wa w h)), (1, .int (iZ ((q : Nat) : Int))), (2, .ref (wa w 1)), (3, .int (iZ ((v : Nat) : Int)))]) (by rw [hkL]; decide) rfl ?_
    refine ww_goto C 6 dX1_timesStep_43 (by decide) ?_
    refine ww_iload C dX1_timesStep_6 0 rfl ?_
    refine ww_iconst C dX1_timesStep_8 ?_
    refine ww_icmp_ge C 46 dX1_timesStep_9 (by decide) (by omega) (by omega) (fun c_9 => ?_) (fun c_9 => ?_)
    · exact absurd c_9 (by decide)
    · refine ww_iload C dX1_timesStep_12 1 rfl ?_
      refine ww_aload_n C dX1_timesStep_14 2 rfl ?_
      refine gt_X1_9 C hpl dX1_timesStep_15 ?_
      refine ww_iconst C dX1_timesStep_18 ?_
      refine ww_iload_n C dX1_timesStep_19 3 rfl ?_
      refine ww_imul C dX1_timesStep_20 ?_
      refine ww_iload C dX1_timesStep_21 0 rfl ?_
      refine ww_iadd C dX1_timesStep_23 ?_
      refine al_pl C hpl (3 * q + 1) (z := (M (h + 1)) (3 * q + 1)) (by omega) (by omega) rfl dX1_timesStep_24 ?_
      refine ww_aload_n C dX1_timesStep_25 4 rfl ?_
      refine gt_X1_48 C dX1_timesStep_26 ?_
      refine ww_iconst C dX1_timesStep_29 ?_
      refine ww_iload_n C dX1_timesStep_30 5 rfl ?_
      refine ww_imul C dX1_timesStep_31 ?_
      refine ww_iload C dX1_timesStep_32 0 rfl ?_
      refine ww_iadd C dX1_timesStep_34 ?_
      refine al_4 C (3 * v + 1) (z := M 4 (3 * v + 1)) (by omega) (by omega) rfl dX1_timesStep_35 ?_
      refine ww_imul C dX1_timesStep_36 ?_
      refine ww_iadd C dX1_timesStep_37 ?_
      refine ww_istore C dX1_timesStep_38 (lv' := [(4, .int (iZ ((0 + (((M (h + 1)) (3 * q)) * (M 4 (3 * v)))) + (((M (h + 1)) (3 * q + 1)) * (M 4 (3 * v + 1)))))), (5, .int (iZ 1)), (0, .ref (wa w h)), (1, .int (iZ ((q : Nat) : Int))), (2, .ref (wa w 1)), (3, .int (iZ ((v : Nat) : Int)))]) (by rw [hkL]; decide) rfl ?_
      refine ww_iinc2 C dX1_timesStep_40 1 rfl (b := 2) (by omega) (lv' := [(5, .int (iZ 2)), (4, .int (iZ ((0 + (((M (h + 1)) (3 * q)) * (M 4 (3 * v)))) + (((M (h + 1)) (3 * q + 1)) * (M 4 (3 * v + 1)))))), (0, .ref (wa w h)), (1, .int (iZ ((q : Nat) : Int))), (2, .ref (wa w 1)), (3, .int (iZ ((v : Nat) : Int)))]) (by rw [hkL]; decide) rfl ?_
      refine ww_goto C 6 dX1_timesStep_43 (by decide) ?_
      refine ww_iload C dX1_timesStep_6 0 rfl ?_
      refine ww_iconst C dX1_timesStep_8 ?_
      refine ww_icmp_ge C 46 dX1_timesStep_9 (by decide) (by omega) (by omega) (fun c_9 => ?_) (fun c_9 => ?_)
      · exact absurd c_9 (by decide)
      · refine ww_iload C dX1_timesStep_12 1 rfl ?_
        refine ww_aload_n C dX1_timesStep_14 2 rfl ?_
        refine gt_X1_9 C hpl dX1_timesStep_15 ?_
        refine ww_iconst C dX1_timesStep_18 ?_
        refine ww_iload_n C dX1_timesStep_19 3 rfl ?_
        refine ww_imul C dX1_timesStep_20 ?_
        refine ww_iload C dX1_timesStep_21 0 rfl ?_
        refine ww_iadd C dX1_timesStep_23 ?_
        refine al_pl C hpl (3 * q + 2) (z := (M (h + 1)) (3 * q + 2)) (by omega) (by omega) rfl dX1_timesStep_24 ?_
        refine ww_aload_n C dX1_timesStep_25 4 rfl ?_
        refine gt_X1_48 C dX1_timesStep_26 ?_
        refine ww_iconst C dX1_timesStep_29 ?_
        refine ww_iload_n C dX1_timesStep_30 5 rfl ?_
        refine ww_imul C dX1_timesStep_31 ?_
        refine ww_iload C dX1_timesStep_32 0 rfl ?_
        refine ww_iadd C dX1_timesStep_34 ?_
        refine al_4 C (3 * v + 2) (z := M 4 (3 * v + 2)) (by omega) (by omega) rfl dX1_timesStep_35 ?_
        refine ww_imul C dX1_timesStep_36 ?_
        refine ww_iadd C dX1_timesStep_37 ?_
        refine ww_istore C dX1_timesStep_38 (lv' := [(4, .int (iZ (((0 + (((M (h + 1)) (3 * q)) * (M 4 (3 * v)))) + (((M (h + 1)) (3 * q + 1)) * (M 4 (3 * v + 1)))) + (((M (h + 1)) (3 * q + 2)) * (M 4 (3 * v + 2)))))), (5, .int (iZ 2)), (0, .ref (wa w h)), (1, .int (iZ ((q : Nat) : Int))), (2, .ref (wa w 1)), (3, .int (iZ ((v : Nat) : Int)))]) (by rw [hkL]; decide) rfl ?_
        refine ww_iinc2 C dX1_timesStep_40 1 rfl (b := 3) (by omega) (lv' := [(5, .int (iZ 3)), (4, .int (iZ (((0 + (((M (h + 1)) (3 * q)) * (M 4 (3 * v)))) + (((M (h + 1)) (3 * q + 1)) * (M 4 (3 * v + 1)))) + (((M (h + 1)) (3 * q + 2)) * (M 4 (3 * v + 2)))))), (0, .ref (wa w h)), (1, .int (iZ ((q : Nat) : Int))), (2, .ref (wa w 1)), (3, .int (iZ ((v : Nat) : Int)))]) (by rw [hkL]; decide) rfl ?_
        refine ww_goto C 6 dX1_timesStep_43 (by decide) ?_
        refine ww_iload C dX1_timesStep_6 0 rfl ?_
        refine ww_iconst C dX1_timesStep_8 ?_
        refine ww_icmp_ge C 46 dX1_timesStep_9 (by decide) (by omega) (by omega) (fun c_9 => ?_) (fun c_9 => ?_)
        · refine ww_iload C dX1_timesStep_46 1 rfl ?_
          exact RT _ _ _ _ dX1_timesStep_48 (⟨by unfold stepB; omega, rfl⟩)
        · exact absurd c_9 (by decide)
set_option maxRecDepth 100000 in
set_option maxHeartbeats 4000000 in
theorem ct_X1_delay (w : WLD) (M : Mem) (h v : Nat) (hpl : pl h) (hv : v < 4) : CtI w yX1_delay cX1_delay 3 (some .int) rm_X1_delay [.ref (wa w h), .ref (wa w 1), .int (iZ ((v : Nat) : Int))] M (fun z M1 => z = stepB (M (h + 1)) (M 4) 0 v ∧ M1 = M) := by
  refine CtI.of (by decide) (Nat.le_of_ble_eq_true rfl) rfl rfl ?_
  intro k hkL C RT
  show WW w k 0 [(0, .ref (wa w h)), (1, .ref (wa w 1)), (2, .int (iZ ((v : Nat) : Int)))] [] M
  refine ww_aload_n C dX1_delay_0 0 rfl ?_
  refine ww_iconst C dX1_delay_1 ?_
  refine ww_aload_n C dX1_delay_2 1 rfl ?_
  refine ww_iload_n C dX1_delay_3 2 rfl ?_
  refine ww_callV C (As := [.int (iZ 0), .ref (wa w 1), .int (iZ ((v : Nat) : Int))]) h (pl_lt hpl) (ct_X1_timesStep w M h 0 v (hpl) (by omega) (by omega)) mf_X1_timesStep ml_X1_44 (pl_cell hpl _) rfl (by decide) rfl rfl (Nat.le_of_ble_eq_true rfl) dX1_delay_4 (fun z_4 M_4 hp_4 => ?_)
  rw [hp_4.1, hp_4.2]
  exact RT _ _ _ _ dX1_delay_7 (⟨rfl, rfl⟩)
set_option maxRecDepth 100000 in
set_option maxHeartbeats 4000000 in
theorem ct_X1_way (w : WLD) (M : Mem) (h v : Nat) (hpl : pl h) (hv : v < 4) (hnu : NuOk (M (h + 1))) (hst : StOk (M 4)) : CtI w yX1_way cX1_way 3 (some .int) rm_X1_way [.ref (wa w h), .ref (wa w 1), .int (iZ ((v : Nat) : Int))] M (fun z M1 => z = wayZ (M (h + 1)) (M 4) v ∧ M1 = M) := by
  refine CtI.of (by decide) (Nat.le_of_ble_eq_true rfl) rfl rfl ?_
  intro k hkL C RT
  have b1 := stepB_b (h := 1) (v := v) hnu hst (by omega) hv
  have b2 := stepB_b (h := 2) (v := v) hnu hst (by omega) hv
  show WW w k 0 [(0, .ref (wa w h)), (1, .ref (wa w 1)), (2, .int (iZ ((v : Nat) : Int)))] [] M
  refine ww_aload_n C dX1_way_0 0 rfl ?_
  refine ww_iconst C dX1_way_1 ?_
  refine ww_aload_n C dX1_way_2 1 rfl ?_
  refine ww_iload_n C dX1_way_3 2 rfl ?_
  refine ww_callV C (As := [.int (iZ 1), .ref (wa w 1), .int (iZ ((v : Nat) : Int))]) h (pl_lt hpl) (ct_X1_timesStep w M h 1 v (hpl) (by omega) (by omega)) mf_X1_timesStep ml_X1_44 (pl_cell hpl _) rfl (by decide) rfl rfl (Nat.le_of_ble_eq_true rfl) dX1_way_4 (fun z_4 M_4 hp_4 => ?_)
  rw [hp_4.1, hp_4.2]
  refine ww_abs C ml_X1_40 (by omega) (by decide) (Nat.le_of_ble_eq_true rfl) dX1_way_7 ?_
  refine ww_aload_n C dX1_way_10 0 rfl ?_
  refine ww_iconst C dX1_way_11 ?_
  refine ww_aload_n C dX1_way_12 1 rfl ?_
  refine ww_iload_n C dX1_way_13 2 rfl ?_
  refine ww_callV C (As := [.int (iZ 2), .ref (wa w 1), .int (iZ ((v : Nat) : Int))]) h (pl_lt hpl) (ct_X1_timesStep w M h 2 v (hpl) (by omega) (by omega)) mf_X1_timesStep ml_X1_44 (pl_cell hpl _) rfl (by decide) rfl rfl (Nat.le_of_ble_eq_true rfl) dX1_way_14 (fun z_14 M_14 hp_14 => ?_)
  rw [hp_14.1, hp_14.2]
  refine ww_abs C ml_X1_40 (by omega) (by decide) (Nat.le_of_ble_eq_true rfl) dX1_way_17 ?_
  refine ww_iadd C dX1_way_20 ?_
  exact RT _ _ _ _ dX1_way_21 (⟨rfl, rfl⟩)
set_option maxRecDepth 100000 in
set_option maxHeartbeats 4000000 in
theorem ct_X1_tooEarly (w : WLD) (M : Mem) (h nv : Nat) (hpl : pl h) (hnu : NuOk (M (h + 1))) (hnv : M 1 3 = (nv : Int)) (hn4 : nv ≤ 4) (hs : SzOk (M 2)) (hst : StOk (M 4)) : CtI w yX1_tooEarly cX1_tooEarly 3 (some .int) rm_X1_tooEarly [.ref (wa w h), .ref (wa w 1)] M (fun z M1 => isFst (earP (M (h + 1)) (M 2) (M 4)) nv z ∧ M1 = M) := by
  refine CtI.of (by decide) (Nat.le_of_ble_eq_true rfl) rfl rfl ?_
  intro k hkL C RT
  show WW w k 0 [(0, .ref (wa w h)), (1, .ref (wa w 1))] [] M
  refine ww_iconst C dX1_tooEarly_0 ?_
  refine ww_istore_n C dX1_tooEarly_1 (lv' := [(2, .int (iZ 0)), (0, .ref (wa w h)), (1, .ref (wa w 1))]) (by rw [hkL]; decide) rfl ?_
  have L_2 : ∀ (fuel : Nat) (t : Nat) (ht : t ≤ nv) (hno : ∀ u : Nat, u < t → ¬ earP (M (h + 1)) (M 2) (M 4) u), nv - t < fuel → WW w k 2 [(0, .ref (wa w h)), (1, .ref (wa w 1)), (2, .int (iZ ((t : Nat) : Int)))] [] M := by
    intro fuel
    induction fuel with
    | zero => intro t ht hno hf_2; exact absurd hf_2 (Nat.not_lt_zero _)
    | succ fuel ih_2 =>
      intro t ht hno hf_2
      have b0 : t < 4 → _ := fun hv9 => stepB_b (h := 0) (v := t) hnu hst (by omega) hv9
      have b1 : t < 4 → _ := fun hv9 => wayZ_b (v := t) hnu hst hv9
      refine ww_iload_n C dX1_tooEarly_2 2 rfl ?_
      refine ww_aload_n C dX1_tooEarly_3 1 rfl ?_
      refine gt_X1_51 C dX1_tooEarly_4 ?_
      refine ww_top (b := ((nv : Nat) : Int)) (hnv) ?_
      refine ww_icmp_ge C 36 dX1_tooEarly_7 (by decide) (by omega) (by omega) (fun c_7 => ?_) (fun c_7 => ?_)
      · refine ww_iconst C dX1_tooEarly_36 ?_
        exact RT _ _ _ _ dX1_tooEarly_37 (⟨Or.inl ⟨rfl, fun u h9 => hno u (by omega)⟩, rfl⟩)
      · refine ww_aload_n C dX1_tooEarly_10 1 rfl ?_
        refine ww_iload_n C dX1_tooEarly_11 2 rfl ?_
        refine ww_callV C (As := [.int (iZ ((t : Nat) : Int))]) 1 (by decide) (ct_X4_isNeeded w M t (by omega) (hs) (hst)) mf_X4_isNeeded ml_X1_54 rfl rfl (by decide) rfl rfl (Nat.le_of_ble_eq_true rfl) dX1_tooEarly_12 (fun z_12 M_12 hp_12 => ?_)
        rw [hp_12.1, hp_12.2]
        refine ww_ifb_eq C 30 dX1_tooEarly_15 (by decide) (fun c_15 => ?_) (fun c_15 => ?_)
        · refine ww_iinc2 C dX1_tooEarly_30 2 rfl (b := ((t + 1 : Nat) : Int)) (by omega) (lv' := [(2, .int (iZ ((t + 1 : Nat) : Int))), (0, .ref (wa w h)), (1, .ref (wa w 1))]) (by rw [hkL]; decide) rfl ?_
          refine ww_goto C 2 dX1_tooEarly_33 (by decide) ?_
          refine ww_sub [1, 2, 0] rfl ?_
          exact ih_2 (t + 1) (by omega) (fun u h9 => by rcases Nat.lt_succ_iff_lt_or_eq.mp h9 with h9 | rfl; exact hno u h9; first | exact fun h8 => c_15 h8.1 | exact fun h8 => by have := h8.2; omega) (by omega)
        · refine ww_aload_n C dX1_tooEarly_18 0 rfl ?_
          refine ww_aload_n C dX1_tooEarly_19 1 rfl ?_
          refine ww_iload_n C dX1_tooEarly_20 2 rfl ?_
          refine ww_callV C (As := [.ref (wa w 1), .int (iZ ((t : Nat) : Int))]) h (pl_lt hpl) (ct_X1_delay w M h t (hpl) (by omega)) mf_X1_delay ml_X1_58 (pl_cell hpl _) rfl (by decide) rfl rfl (Nat.le_of_ble_eq_true rfl) dX1_tooEarly_21 (fun z_21 M_21 hp_21 => ?_)
          rw [hp_21.1, hp_21.2]
          refine ww_iconst C dX1_tooEarly_24 ?_
          refine ww_icmp_ge C 30 dX1_tooEarly_25 (by decide) (by omega) (by omega) (fun c_25 => ?_) (fun c_25 => ?_)
          · refine ww_iinc2 C dX1_tooEarly_30 2 rfl (b := ((t + 1 : Nat) : Int)) (by omega) (lv' := [(2, .int (iZ ((t + 1 : Nat) : Int))), (0, .ref (wa w h)), (1, .ref (wa w 1))]) (by rw [hkL]; decide) rfl ?_
            refine ww_goto C 2 dX1_tooEarly_33 (by decide) ?_
            refine ww_sub [1, 2, 0] rfl ?_
            exact ih_2 (t + 1) (by omega) (fun u h9 => by rcases Nat.lt_succ_iff_lt_or_eq.mp h9 with h9 | rfl; exact hno u h9; first | exact fun h8 => c_15 h8.1 | exact fun h8 => by have := h8.2; omega) (by omega)
          · refine ww_iload_n C dX1_tooEarly_28 2 rfl ?_
            exact RT _ _ _ _ dX1_tooEarly_29 (⟨Or.inr ⟨t, rfl, by omega, ⟨c_15, by omega⟩, hno⟩, rfl⟩)
  refine ww_sub [1, 2, 0] rfl ?_
  exact L_2 _ 0 (by omega) (fun u h9 => absurd h9 (Nat.not_lt_zero _)) (Nat.lt_succ_self _)
set_option maxRecDepth 100000 in
set_option maxHeartbeats 4000000 in
theorem ct_X1_tooFar (w : WLD) (M : Mem) (h nv : Nat) (hpl : pl h) (hnu : NuOk (M (h + 1))) (hnv : M 1 3 = (nv : Int)) (hn4 : nv ≤ 4) (hs : SzOk (M 2)) (hst : StOk (M 4)) : CtI w yX1_tooFar cX1_tooFar 3 (some .int) rm_X1_tooFar [.ref (wa w h), .ref (wa w 1)] M (fun z M1 => isFst (farP (M (h + 1)) (M 2) (M 4)) nv z ∧ M1 = M) := by
  refine CtI.of (by decide) (Nat.le_of_ble_eq_true rfl) rfl rfl ?_
  intro k hkL C RT
  show WW w k 0 [(0, .ref (wa w h)), (1, .ref (wa w 1))] [] M
  refine ww_iconst C dX1_tooFar_0 ?_
  refine ww_istore_n C dX1_tooFar_1 (lv' := [(2, .int (iZ 0)), (0, .ref (wa w h)), (1, .ref (wa w 1))]) (by rw [hkL]; decide) rfl ?_
  have L_2 : ∀ (fuel : Nat) (t : Nat) (ht : t ≤ nv) (hno : ∀ u : Nat, u < t → ¬ farP (M (h + 1)) (M 2) (M 4) u), nv - t < fuel → WW w k 2 [(0, .ref (wa w h)), (1, .ref (wa w 1)), (2, .int (iZ ((t : Nat) : Int)))] [] M := by
    intro fuel
    induction fuel with
    | zero => intro t ht hno hf_2; exact absurd hf_2 (Nat.not_lt_zero _)
    | succ fuel ih_2 =>
      intro t ht hno hf_2
      have b0 : t < 4 → _ := fun hv9 => stepB_b (h := 0) (v := t) hnu hst (by omega) hv9
      have b1 : t < 4 → _ := fun hv9 => wayZ_b (v := t) hnu hst hv9
      refine ww_iload_n C dX1_tooFar_2 2 rfl ?_
      refine ww_aload_n C dX1_tooFar_3 1 rfl ?_
      refine gt_X1_51 C dX1_tooFar_4 ?_
      refine ww_top (b := ((nv : Nat) : Int)) (hnv) ?_
      refine ww_icmp_ge C 41 dX1_tooFar_7 (by decide) (by omega) (by omega) (fun c_7 => ?_) (fun c_7 => ?_)
      · refine ww_iconst C dX1_tooFar_41 ?_
        exact RT _ _ _ _ dX1_tooFar_42 (⟨Or.inl ⟨rfl, fun u h9 => hno u (by omega)⟩, rfl⟩)
      · refine ww_aload_n C dX1_tooFar_10 1 rfl ?_
        refine ww_iload_n C dX1_tooFar_11 2 rfl ?_
        refine ww_callV C (As := [.int (iZ ((t : Nat) : Int))]) 1 (by decide) (ct_X4_isNeeded w M t (by omega) (hs) (hst)) mf_X4_isNeeded ml_X1_54 rfl rfl (by decide) rfl rfl (Nat.le_of_ble_eq_true rfl) dX1_tooFar_12 (fun z_12 M_12 hp_12 => ?_)
        rw [hp_12.1, hp_12.2]
        refine ww_ifb_eq C 35 dX1_tooFar_15 (by decide) (fun c_15 => ?_) (fun c_15 => ?_)
        · refine ww_iinc2 C dX1_tooFar_35 2 rfl (b := ((t + 1 : Nat) : Int)) (by omega) (lv' := [(2, .int (iZ ((t + 1 : Nat) : Int))), (0, .ref (wa w h)), (1, .ref (wa w 1))]) (by rw [hkL]; decide) rfl ?_
          refine ww_goto C 2 dX1_tooFar_38 (by decide) ?_
          refine ww_sub [1, 2, 0] rfl ?_
          exact ih_2 (t + 1) (by omega) (fun u h9 => by rcases Nat.lt_succ_iff_lt_or_eq.mp h9 with h9 | rfl; exact hno u h9; first | exact fun h8 => c_15 h8.1 | exact fun h8 => by have := h8.2; omega) (by omega)
        · refine ww_aload_n C dX1_tooFar_18 0 rfl ?_
          refine ww_aload_n C dX1_tooFar_19 1 rfl ?_
          refine ww_iload_n C dX1_tooFar_20 2 rfl ?_
          refine ww_callV C (As := [.ref (wa w 1), .int (iZ ((t : Nat) : Int))]) h (pl_lt hpl) (ct_X1_way w M h t (hpl) (by omega) (hnu) (hst)) mf_X1_way ml_X1_62 (pl_cell hpl _) rfl (by decide) rfl rfl (Nat.le_of_ble_eq_true rfl) dX1_tooFar_21 (fun z_21 M_21 hp_21 => ?_)
          rw [hp_21.1, hp_21.2]
          refine ww_aload_n C dX1_tooFar_24 0 rfl ?_
          refine ww_aload_n C dX1_tooFar_25 1 rfl ?_
          refine ww_iload_n C dX1_tooFar_26 2 rfl ?_
          refine ww_callV C (As := [.ref (wa w 1), .int (iZ ((t : Nat) : Int))]) h (pl_lt hpl) (ct_X1_delay w M h t (hpl) (by omega)) mf_X1_delay ml_X1_58 (pl_cell hpl _) rfl (by decide) rfl rfl (Nat.le_of_ble_eq_true rfl) dX1_tooFar_27 (fun z_27 M_27 hp_27 => ?_)
          rw [hp_27.1, hp_27.2]
          refine ww_icmp_le C 35 dX1_tooFar_30 (by decide) (by omega) (by omega) (fun c_30 => ?_) (fun c_30 => ?_)
          · refine ww_iinc2 C dX1_tooFar_35 2 rfl (b := ((t + 1 : Nat) : Int)) (by omega) (lv' := [(2, .int (iZ ((t + 1 : Nat) : Int))), (0, .ref (wa w h)), (1, .ref (wa w 1))]) (by rw [hkL]; decide) rfl ?_
            refine ww_goto C 2 dX1_tooFar_38 (by decide) ?_
            refine ww_sub [1, 2, 0] rfl ?_
            exact ih_2 (t + 1) (by omega) (fun u h9 => by rcases Nat.lt_succ_iff_lt_or_eq.mp h9 with h9 | rfl; exact hno u h9; first | exact fun h8 => c_15 h8.1 | exact fun h8 => by have := h8.2; omega) (by omega)
          · refine ww_iload_n C dX1_tooFar_33 2 rfl ?_
            exact RT _ _ _ _ dX1_tooFar_34 (⟨Or.inr ⟨t, rfl, by omega, ⟨c_15, by omega⟩, hno⟩, rfl⟩)
  refine ww_sub [1, 2, 0] rfl ?_
  exact L_2 _ 0 (by omega) (fun u h9 => absurd h9 (Nat.not_lt_zero _)) (Nat.lt_succ_self _)
