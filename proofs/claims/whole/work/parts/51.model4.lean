set_option maxRecDepth 100000 in
set_option maxHeartbeats 4000000 in
theorem ct_X6_numbers (w : WLD) (M : Mem) (q n b : Nat) (hq : q < 3) (hb : b = 1 ∨ b = 2) (hn : n < 125) : CtV w yX6_numbers cX6_numbers 5 rm_X6_numbers [.ref (wa w 30), .int (iZ ((q : Nat) : Int)), .int (iZ ((n : Nat) : Int)), .int (iZ ((b : Nat) : Int))] M (fun M1 => M1 = ups M 37 (up1 (up1 (up1 (M 37) (3 * q) (spA b n)) (3 * q + 1) (spB b n)) (3 * q + 2) (spC b n))) := by
  refine CtV.of (by decide) (Nat.le_of_ble_eq_true rfl) rfl rfl ?_
  intro k hkL C RT
  have e7 := Nat.div_le_self n (2 * b + 1)
  have e8 := Int.natCast_nonneg (n / (2 * b + 1))
  show WW w k 0 [(0, .ref (wa w 30)), (1, .int (iZ ((q : Nat) : Int))), (2, .int (iZ ((n : Nat) : Int))), (3, .int (iZ ((b : Nat) : Int)))] [] M
  refine ww_iconst C dX6_numbers_0 ?_
  refine ww_iload_n C dX6_numbers_1 3 rfl ?_
  refine ww_imul C dX6_numbers_2 ?_
  refine ww_iconst C dX6_numbers_3 ?_
  refine ww_iadd C dX6_numbers_4 ?_
  refine ww_top (b := ((2 * b + 1 : Nat) : Int)) (by omega) ?_
  refine ww_istore C dX6_numbers_5 (lv' := [(4, .int (iZ ((2 * b + 1 : Nat) : Int))), (0, .ref (wa w 30)), (1, .int (iZ ((q : Nat) : Int))), (2, .int (iZ ((n : Nat) : Int))), (3, .int (iZ ((b : Nat) : Int)))]) (by rw [hkL]; decide) rfl ?_
  refine ww_aload_n C dX6_numbers_7 1 rfl ?_
  refine gt_X6_28 C dX6_numbers_8 ?_
  refine ww_iconst C dX6_numbers_11 ?_
  refine ww_iload_n C dX6_numbers_12 2 rfl ?_
  refine ww_imul C dX6_numbers_13 ?_
  refine ww_iload_n C dX6_numbers_14 3 rfl ?_
  refine ww_iload C dX6_numbers_15 0 rfl ?_
  refine ww_idivN C dX6_numbers_17 (by omega) (by omega) ?_
  refine ww_top (b := ((n / (2 * b + 1) : Nat) : Int)) (by rw [Int.natCast_ediv]) ?_
  refine ww_iload C dX6_numbers_18 0 rfl ?_
  refine ww_idivN C dX6_numbers_20 (by omega) (by omega) ?_
  refine ww_top (b := ((n / ((2 * b + 1) * (2 * b + 1)) : Nat) : Int)) (by rw [← Int.natCast_ediv, Nat.div_div_eq_div_mul]) ?_
  refine ww_iload_n C dX6_numbers_21 4 rfl ?_
  refine ww_isub C dX6_numbers_22 ?_
  refine ww_top (b := spA b n) (rfl) ?_
  refine as_37 C (3 * q) (by omega) (by omega) dX6_numbers_23 ?_
  refine ww_aload_n C dX6_numbers_24 1 rfl ?_
  refine gt_X6_28 C dX6_numbers_25 ?_
  refine ww_iconst C dX6_numbers_28 ?_
  refine ww_iload_n C dX6_numbers_29 2 rfl ?_
  refine ww_imul C dX6_numbers_30 ?_
  refine ww_iconst C dX6_numbers_31 ?_
  refine ww_iadd C dX6_numbers_32 ?_
  refine ww_iload_n C dX6_numbers_33 3 rfl ?_
  refine ww_iload C dX6_numbers_34 0 rfl ?_
  refine ww_idivN C dX6_numbers_36 (by omega) (by omega) ?_
  refine ww_top (b := ((n / (2 * b + 1) : Nat) : Int)) (by rw [Int.natCast_ediv]) ?_
  refine ww_iload C dX6_numbers_37 0 rfl ?_
  refine ww_iremN C dX6_numbers_39 (by omega) (by omega) ?_
  refine ww_top (b := ((n / (2 * b + 1) % (2 * b + 1) : Nat) : Int)) (by rw [Int.natCast_emod]) ?_
  refine ww_iload_n C dX6_numbers_40 4 rfl ?_
  refine ww_isub C dX6_numbers_41 ?_
  refine ww_top (b := spB b n) (rfl) ?_
  refine as_37 C (3 * q + 1) (by omega) (by omega) dX6_numbers_42 ?_
  refine ww_mem (M1 := ups M 37 (up1 (up1 (M 37) (3 * q) (spA b n)) (3 * q + 1) (spB b n))) (ups_ups) ?_
  refine ww_aload_n C dX6_numbers_43 1 rfl ?_
  refine gt_X6_28 C dX6_numbers_44 ?_
  refine ww_iconst C dX6_numbers_47 ?_
  refine ww_iload_n C dX6_numbers_48 2 rfl ?_
  refine ww_imul C dX6_numbers_49 ?_
  refine ww_iconst C dX6_numbers_50 ?_
  refine ww_iadd C dX6_numbers_51 ?_
  refine ww_iload_n C dX6_numbers_52 3 rfl ?_
  refine ww_iload C dX6_numbers_53 0 rfl ?_
  refine ww_iremN C dX6_numbers_55 (by omega) (by omega) ?_
  refine ww_top (b := ((n % (2 * b + 1) : Nat) : Int)) (by rw [Int.natCast_emod]) ?_
  refine ww_iload_n C dX6_numbers_56 4 rfl ?_
  refine ww_isub C dX6_numbers_57 ?_
  refine ww_top (b := spC b n) (rfl) ?_
  refine as_37 C (3 * q + 2) (by omega) (by omega) dX6_numbers_58 ?_
  refine ww_mem (M1 := ups M 37 (up1 (up1 (up1 (M 37) (3 * q) (spA b n)) (3 * q + 1) (spB b n)) (3 * q + 2) (spC b n))) (ups_ups) ?_
  exact RT _ _ _ dX6_numbers_59 (rfl)
set_option maxRecDepth 100000 in
set_option maxHeartbeats 4000000 in
theorem ct_X6_best_0 (w : WLD) (M : Mem) (b ln : Int) (h1 : R32 b) (h2 : R32 ln) (hno : ¬ ((b = 1 ∧ (ln = 1 ∨ ln = 2)) ∨ (b = 2 ∧ ln = 1))) : CtI w yX6_best cX6_best 14 (some .int) rm_X6_best [.ref (wa w 30), .int (iZ b), .int (iZ ln)] M (fun z M1 => z = -1 ∧ M1 = M) := by
  refine CtI.of (by decide) (Nat.le_of_ble_eq_true rfl) rfl rfl ?_
  intro k hkL C RT
  show WW w k 0 [(0, .ref (wa w 30)), (1, .int (iZ b)), (2, .int (iZ ln))] [] M
  refine ww_iload_n C dX6_best_0 1 rfl ?_
  refine ww_iconst C dX6_best_1 ?_
  refine ww_iconst C dX6_best_2 ?_
  refine ww_callS C (As := [.int (iZ b), .int (iZ 1), .int (iZ 2)]) (ct_X6_in w M b 1 2 (by omega) (by omega) (by omega)) mf_X6_in ml_X6_54 (by decide) rfl rfl (Nat.le_of_ble_eq_true rfl) dX6_best_3 (fun z_3 M_3 hp_3 => ?_)
  rw [hp_3.1, hp_3.2]
  refine ww_ifb_eq C 28 dX6_best_6 (by decide) (fun c_6 => ?_) (fun c_6 => ?_)
  · refine ww_iconst C dX6_best_28 ?_
    exact RT _ _ _ _ dX6_best_29 (⟨rfl, rfl⟩)
  · refine ww_iload_n C dX6_best_9 2 rfl ?_
    refine ww_iconst C dX6_best_10 ?_
    refine ww_iconst C dX6_best_11 ?_
    refine ww_callS C (As := [.int (iZ ln), .int (iZ 1), .int (iZ 2)]) (ct_X6_in w M ln 1 2 (by omega) (by omega) (by omega)) mf_X6_in ml_X6_54 (by decide) rfl rfl (Nat.le_of_ble_eq_true rfl) dX6_best_12 (fun z_12 M_12 hp_12 => ?_)
    rw [hp_12.1, hp_12.2]
    refine ww_ifb_eq C 28 dX6_best_15 (by decide) (fun c_15 => ?_) (fun c_15 => ?_)
    · refine ww_iconst C dX6_best_28 ?_
      exact RT _ _ _ _ dX6_best_29 (⟨rfl, rfl⟩)
    · refine ww_iload_n C dX6_best_18 1 rfl ?_
      refine ww_iconst C dX6_best_19 ?_
      refine ww_icmp_ne C 30 dX6_best_20 (by decide) (by omega) (by omega) (fun c_20 => ?_) (fun c_20 => ?_)
      · exfalso; omega
      · refine ww_iload_n C dX6_best_23 2 rfl ?_
        refine ww_iconst C dX6_best_24 ?_
        refine ww_icmp_ne C 30 dX6_best_25 (by decide) (by omega) (by omega) (fun c_25 => ?_) (fun c_25 => ?_)
        · exfalso; omega
        · refine ww_iconst C dX6_best_28 ?_
          exact RT _ _ _ _ dX6_best_29 (⟨rfl, rfl⟩)
