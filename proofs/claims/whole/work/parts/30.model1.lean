set_option maxRecDepth 100000 in
set_option maxHeartbeats 4000000 in
theorem ct_X6_in (w : WLD) (M : Mem) (v lo hi : Int) (h1 : R32 v) (h2 : R32 lo) (h3 : R32 hi) : CtI w yX6_in cX6_in 3 (some .boolean) rm_X6_in [.int (iZ v), .int (iZ lo), .int (iZ hi)] M (fun z M1 => z = b2i (lo ≤ v ∧ v ≤ hi) ∧ M1 = M) := by
  refine CtI.ofZ (by decide) (Nat.le_of_ble_eq_true rfl) rfl rfl (fun z M9 h9 => by rw [h9.1]; exact b2i_01 _) ?_
  intro k hkL C RT
  show WW w k 0 [(0, .int (iZ v)), (1, .int (iZ lo)), (2, .int (iZ hi))] [] M
  refine ww_iload_n C dX6_in_0 0 rfl ?_
  refine ww_iload_n C dX6_in_1 1 rfl ?_
  refine ww_icmp_lt C 14 dX6_in_2 (by decide) (by omega) (by omega) (fun c_2 => ?_) (fun c_2 => ?_)
  · refine ww_iconst C dX6_in_14 ?_
    exact RT _ _ _ _ dX6_in_15 (⟨by first | exact (b2i_t (by omega)).symm | exact (b2i_f (by omega)).symm, rfl⟩)
  · refine ww_iload_n C dX6_in_5 0 rfl ?_
    refine ww_iload_n C dX6_in_6 2 rfl ?_
    refine ww_icmp_gt C 14 dX6_in_7 (by decide) (by omega) (by omega) (fun c_7 => ?_) (fun c_7 => ?_)
    · refine ww_iconst C dX6_in_14 ?_
      exact RT _ _ _ _ dX6_in_15 (⟨by first | exact (b2i_t (by omega)).symm | exact (b2i_f (by omega)).symm, rfl⟩)
    · refine ww_iconst C dX6_in_10 ?_
      refine ww_goto C 15 dX6_in_11 (by decide) ?_
      exact RT _ _ _ _ dX6_in_15 (⟨by first | exact (b2i_t (by omega)).symm | exact (b2i_f (by omega)).symm, rfl⟩)
set_option maxRecDepth 100000 in
set_option maxHeartbeats 4000000 in
theorem ct_X6_absolute (w : WLD) (M : Mem) (v : Int) (h1 : R32 v) : CtI w yX6_absolute cX6_absolute 1 (some .int) rm_X6_absolute [.int (iZ v)] M (fun z M1 => z = aZ v ∧ M1 = M) := by
  refine CtI.of (by decide) (Nat.le_of_ble_eq_true rfl) rfl rfl ?_
  intro k hkL C RT
  show WW w k 0 [(0, .int (iZ v))] [] M
  refine ww_iload_n C dX6_absolute_0 0 rfl ?_
  refine ww_if_ge C 9 dX6_absolute_1 (by decide) (by omega) (fun c_1 => ?_) (fun c_1 => ?_)
  · refine ww_iload_n C dX6_absolute_9 0 rfl ?_
    exact RT _ _ _ _ dX6_absolute_10 (⟨by unfold aZ; split <;> omega, rfl⟩)
  · refine ww_iload_n C dX6_absolute_4 0 rfl ?_
    refine ww_ineg C dX6_absolute_5 ?_
    refine ww_goto C 10 dX6_absolute_6 (by decide) ?_
    exact RT _ _ _ _ dX6_absolute_10 (⟨by unfold aZ; split <;> omega, rfl⟩)
set_option maxRecDepth 100000 in
set_option maxHeartbeats 4000000 in
theorem ct_X6_isPoint (w : WLD) (M : Mem) (i j l : Int) (h1 : R32 i) (h2 : R32 j) (h3 : R32 l) (hs : SzOk (M 31)) : CtI w yX6_isPoint cX6_isPoint 4 (some .boolean) rm_X6_isPoint [.ref (wa w 30), .int (iZ i), .int (iZ j), .int (iZ l)] M (fun z M1 => z = b2i ((0 ≤ i ∧ i < M 31 0) ∧ (0 ≤ j ∧ j < M 31 1) ∧ (0 ≤ l ∧ l < M 31 2)) ∧ M1 = M) := by
  refine CtI.ofZ (by decide) (Nat.le_of_ble_eq_true rfl) rfl rfl (fun z M9 h9 => by rw [h9.1]; exact b2i_01 _) ?_
  intro k hkL C RT
  show WW w k 0 [(0, .ref (wa w 30)), (1, .int (iZ i)), (2, .int (iZ j)), (3, .int (iZ l))] [] M
  refine ww_iload_n C dX6_isPoint_0 1 rfl ?_
  refine ww_iconst C dX6_isPoint_1 ?_
  refine ww_aload_n C dX6_isPoint_2 0 rfl ?_
  refine gt_X6_7 C dX6_isPoint_3 ?_
  refine ww_iconst C dX6_isPoint_6 ?_
  refine al_31 C 0 (z := M 31 0) rfl (by omega) rfl dX6_isPoint_7 ?_
  refine ww_iconst C dX6_isPoint_8 ?_
  refine ww_isub C dX6_isPoint_9 ?_
  refine ww_callS C (As := [.int (iZ i), .int (iZ 0), .int (iZ ((M 31 0) - 1))]) (ct_X6_in w M i 0 ((M 31 0) - 1) (by omega) (by omega) (by omega)) mf_X6_in ml_X6_54 (by decide) rfl rfl (Nat.le_of_ble_eq_true rfl) dX6_isPoint_10 (fun z_10 M_10 hp_10 => ?_)
  rw [hp_10.1, hp_10.2]
  refine ww_ifb_eq C 52 dX6_isPoint_13 (by decide) (fun c_13 => ?_) (fun c_13 => ?_)
  · refine ww_iconst C dX6_isPoint_52 ?_
    exact RT _ _ _ _ dX6_isPoint_53 (⟨by first | exact (b2i_t (by omega)).symm | exact (b2i_f (by omega)).symm, rfl⟩)
  · refine ww_iload_n C dX6_isPoint_16 2 rfl ?_
    refine ww_iconst C dX6_isPoint_17 ?_
    refine ww_aload_n C dX6_isPoint_18 0 rfl ?_
    refine gt_X6_7 C dX6_isPoint_19 ?_
    refine ww_iconst C dX6_isPoint_22 ?_
    refine al_31 C 1 (z := M 31 1) rfl (by omega) rfl dX6_isPoint_23 ?_
    refine ww_iconst C dX6_isPoint_24 ?_
    refine ww_isub C dX6_isPoint_25 ?_
    refine ww_callS C (As := [.int (iZ j), .int (iZ 0), .int (iZ ((M 31 1) - 1))]) (ct_X6_in w M j 0 ((M 31 1) - 1) (by omega) (by omega) (by omega)) mf_X6_in ml_X6_54 (by decide) rfl rfl (Nat.le_of_ble_eq_true rfl) dX6_isPoint_26 (fun z_26 M_26 hp_26 => ?_)
    rw [hp_26.1, hp_26.2]
    refine ww_ifb_eq C 52 dX6_isPoint_29 (by decide) (fun c_29 => ?_) (fun c_29 => ?_)
    · refine ww_iconst C dX6_isPoint_52 ?_
      exact RT _ _ _ _ dX6_isPoint_53 (⟨by first | exact (b2i_t (by omega)).symm | exact (b2i_f (by omega)).symm, rfl⟩)
    · refine ww_iload_n C dX6_isPoint_32 3 rfl ?_
      refine ww_iconst C dX6_isPoint_33 ?_
      refine ww_aload_n C dX6_isPoint_34 0 rfl ?_
      refine gt_X6_7 C dX6_isPoint_35 ?_
      refine ww_iconst C dX6_isPoint_38 ?_
      refine al_31 C 2 (z := M 31 2) rfl (by omega) rfl dX6_isPoint_39 ?_
      refine ww_iconst C dX6_isPoint_40 ?_
      refine ww_isub C dX6_isPoint_41 ?_
      refine ww_callS C (As := [.int (iZ l), .int (iZ 0), .int (iZ ((M 31 2) - 1))]) (ct_X6_in w M l 0 ((M 31 2) - 1) (by omega) (by omega) (by omega)) mf_X6_in ml_X6_54 (by decide) rfl rfl (Nat.le_of_ble_eq_true rfl) dX6_isPoint_42 (fun z_42 M_42 hp_42 => ?_)
      rw [hp_42.1, hp_42.2]
      refine ww_ifb_eq C 52 dX6_isPoint_45 (by decide) (fun c_45 => ?_) (fun c_45 => ?_)
      · refine ww_iconst C dX6_isPoint_52 ?_
        exact RT _ _ _ _ dX6_isPoint_53 (⟨by first | exact (b2i_t (by omega)).symm | exact (b2i_f (by omega)).symm, rfl⟩)
      · refine ww_iconst C dX6_isPoint_48 ?_
        refine ww_goto C 53 dX6_isPoint_49 (by decide) ?_
        exact RT _ _ _ _ dX6_isPoint_53 (⟨by first | exact (b2i_t (by omega)).symm | exact (b2i_f (by omega)).symm, rfl⟩)
set_option maxRecDepth 100000 in
set_option maxHeartbeats 4000000 in
theorem ct_X6_isVariable (w : WLD) (M : Mem) (v : Int) (h1 : R32 v) (h2 : 0 ≤ M 30 1 ∧ M 30 1 ≤ 4) : CtI w yX6_isVariable cX6_isVariable 2 (some .boolean) rm_X6_isVariable [.ref (wa w 30), .int (iZ v)] M (fun z M1 => z = b2i (0 ≤ v ∧ v < M 30 1) ∧ M1 = M) := by
  refine CtI.ofZ (by decide) (Nat.le_of_ble_eq_true rfl) rfl rfl (fun z M9 h9 => by rw [h9.1]; exact b2i_01 _) ?_
  intro k hkL C RT
  show WW w k 0 [(0, .ref (wa w 30)), (1, .int (iZ v))] [] M
  refine ww_iload_n C dX6_isVariable_0 1 rfl ?_
  refine ww_iconst C dX6_isVariable_1 ?_
  refine ww_aload_n C dX6_isVariable_2 0 rfl ?_
  refine gt_X6_58 C dX6_isVariable_3 ?_
  refine ww_iconst C dX6_isVariable_6 ?_
  refine ww_isub C dX6_isVariable_7 ?_
  refine ww_callS C (As := [.int (iZ v), .int (iZ 0), .int (iZ ((M 30 1) - 1))]) (ct_X6_in w M v 0 ((M 30 1) - 1) (by omega) (by omega) (by omega)) mf_X6_in ml_X6_54 (by decide) rfl rfl (Nat.le_of_ble_eq_true rfl) dX6_isVariable_8 (fun z_8 M_8 hp_8 => ?_)
  rw [hp_8.1, hp_8.2]
  exact RT _ _ _ _ dX6_isVariable_11 (⟨b2i_c (by constructor <;> intro h9 <;> omega), rfl⟩)
set_option maxRecDepth 100000 in
set_option maxHeartbeats 4000000 in
theorem ct_X6_ahead (w : WLD) (M : Mem) (v p : Nat) (hv : v < 4) (hp : p < 512) (hs : SzOk (M 31)) (hst : StOk (M 32)) : CtI w yX6_ahead cX6_ahead 6 (some .int) rm_X6_ahead [.ref (wa w 30), .int (iZ ((v : Nat) : Int)), .int (iZ ((p : Nat) : Int))] M (fun z M1 => z = stepZ (M 31) (M 32) v p (-1) ∧ M1 = M) := by
  refine CtI.of (by decide) (Nat.le_of_ble_eq_true rfl) rfl rfl ?_
  intro k hkL C RT
  have hst0 := hst (3 * v) (by omega)
  have hst1 := hst (3 * v + 1) (by omega)
  have hst2 := hst (3 * v + 2) (by omega)
  show WW w k 0 [(0, .ref (wa w 30)), (1, .int (iZ ((v : Nat) : Int))), (2, .int (iZ ((p : Nat) : Int)))] [] M
  refine ww_iload_n C dX6_ahead_0 2 rfl ?_
  refine ww_bipush C dX6_ahead_1 (by decide) ?_
  refine ww_idivN C dX6_ahead_3 (by omega) (by omega) ?_
  refine ww_top (b := ((p / 64 : Nat) : Int)) (by omega) ?_
  refine ww_aload_n C dX6_ahead_4 0 rfl ?_
  refine gt_X6_13 C dX6_ahead_5 ?_
  refine ww_iconst C dX6_ahead_8 ?_
  refine ww_iload_n C dX6_ahead_9 1 rfl ?_
  refine ww_imul C dX6_ahead_10 ?_
  refine al_32 C (3 * v) (z := M 32 (3 * v)) (by omega) (by omega) rfl dX6_ahead_11 ?_
  refine ww_isub C dX6_ahead_12 ?_
  refine ww_istore_n C dX6_ahead_13 (lv' := [(3, .int (iZ (((p / 64 : Nat) : Int) - (M 32 (3 * v))))), (0, .ref (wa w 30)), (1, .int (iZ ((v : Nat) : Int))), (2, .int (iZ ((p : Nat) : Int)))]) (by rw [hkL]; decide) rfl ?_
  refine ww_iload_n C dX6_ahead_14 3 rfl ?_
  refine ww_bipush C dX6_ahead_15 (by decide) ?_
  refine ww_idivN C dX6_ahead_17 (by omega) (by omega) ?_
  refine ww_top (b := ((p / 8 : Nat) : Int)) (by omega) ?_
  refine ww_bipush C dX6_ahead_18 (by decide) ?_
  refine ww_iremN C dX6_ahead_20 (by omega) (by omega) ?_
  refine ww_top (b := ((p / 8 % 8 : Nat) : Int)) (by omega) ?_
  refine ww_aload_n C dX6_ahead_21 1 rfl ?_
  refine gt_X6_13 C dX6_ahead_22 ?_
  refine ww_iconst C dX6_ahead_25 ?_
  refine ww_iload_n C dX6_ahead_26 2 rfl ?_
  refine ww_imul C dX6_ahead_27 ?_
  refine ww_iconst C dX6_ahead_28 ?_
  refine ww_iadd C dX6_ahead_29 ?_
  refine al_32 C (3 * v + 1) (z := M 32 (3 * v + 1)) (by omega) (by omega) rfl dX6_ahead_30 ?_
  refine ww_isub C dX6_ahead_31 ?_
  refine ww_istore C dX6_ahead_32 (lv' := [(4, .int (iZ (((p / 8 % 8 : Nat) : Int) - (M 32 (3 * v + 1))))), (3, .int (iZ (((p / 64 : Nat) : Int) - (M 32 (3 * v))))), (0, .ref (wa w 30)), (1, .int (iZ ((v : Nat) : Int))), (2, .int (iZ ((p : Nat) : Int)))]) (by rw [hkL]; decide) rfl ?_
  refine ww_iload_n C dX6_ahead_34 4 rfl ?_
  refine ww_bipush C dX6_ahead_35 (by decide) ?_
  refine ww_iremN C dX6_ahead_37 (by omega) (by omega) ?_
  refine ww_top (b := ((p % 8 : Nat) : Int)) (by omega) ?_
  refine ww_aload_n C dX6_ahead_38 2 rfl ?_
  refine gt_X6_13 C dX6_ahead_39 ?_
  refine ww_iconst C dX6_ahead_42 ?_
  refine ww_iload_n C dX6_ahead_43 3 rfl ?_
  refine ww_imul C dX6_ahead_44 ?_
  refine ww_iconst C dX6_ahead_45 ?_
  refine ww_iadd C dX6_ahead_46 ?_
  refine al_32 C (3 * v + 2) (z := M 32 (3 * v + 2)) (by omega) (by omega) rfl dX6_ahead_47 ?_
  refine ww_isub C dX6_ahead_48 ?_
  refine ww_istore C dX6_ahead_49 (lv' := [(5, .int (iZ (((p % 8 : Nat) : Int) - (M 32 (3 * v + 2))))), (4, .int (iZ (((p / 8 % 8 : Nat) : Int) - (M 32 (3 * v + 1))))), (3, .int (iZ (((p / 64 : Nat) : Int) - (M 32 (3 * v))))), (0, .ref (wa w 30)), (1, .int (iZ ((v : Nat) : Int))), (2, .int (iZ ((p : Nat) : Int)))]) (by rw [hkL]; decide) rfl ?_
  refine ww_aload_n C dX6_ahead_51 3 rfl ?_
  refine ww_iload_n C dX6_ahead_52 2 rfl ?_
  refine ww_iload C dX6_ahead_53 1 rfl ?_
  refine ww_iload C dX6_ahead_55 0 rfl ?_
  refine ww_callV C (As := [.int (iZ (((p / 64 : Nat) : Int) - (M 32 (3 * v)))), .int (iZ (((p / 8 % 8 : Nat) : Int) - (M 32 (3 * v + 1)))), .int (iZ (((p % 8 : Nat) : Int) - (M 32 (3 * v + 2))))]) 30 (by decide) (ct_X6_isPoint w M (((p / 64 : Nat) : Int) - (M 32 (3 * v))) (((p / 8 % 8 : Nat) : Int) - (M 32 (3 * v + 1))) (((p % 8 : Nat) : Int) - (M 32 (3 * v + 2))) (by omega) (by omega) (by omega) (hs)) mf_X6_isPoint ml_X6_61 rfl rfl (by decide) rfl rfl (Nat.le_of_ble_eq_true rfl) dX6_ahead_57 (fun z_57 M_57 hp_57 => ?_)
  rw [hp_57.1, hp_57.2]
  refine ww_ifb_eq C 79 dX6_ahead_60 (by decide) (fun c_60 => ?_) (fun c_60 => ?_)
  · refine ww_iconst C dX6_ahead_79 ?_
    exact RT _ _ _ _ dX6_ahead_80 (⟨by unfold stepZ codeZ; split <;> omega, rfl⟩)
  · refine ww_bipush C dX6_ahead_63 (by decide) ?_
    refine ww_iload_n C dX6_ahead_65 2 rfl ?_
    refine ww_imul C dX6_ahead_66 ?_
    refine ww_bipush C dX6_ahead_67 (by decide) ?_
    refine ww_iload C dX6_ahead_69 1 rfl ?_
    refine ww_imul C dX6_ahead_71 ?_
    refine ww_iadd C dX6_ahead_72 ?_
    refine ww_iload C dX6_ahead_73 0 rfl ?_
    refine ww_iadd C dX6_ahead_75 ?_
    refine ww_goto C 80 dX6_ahead_76 (by decide) ?_
    exact RT _ _ _ _ dX6_ahead_80 (⟨by unfold stepZ codeZ; split <;> omega, rfl⟩)
set_option maxRecDepth 100000 in
set_option maxHeartbeats 4000000 in
theorem ct_X6_behind (w : WLD) (M : Mem) (v p : Nat) (hv : v < 4) (hp : p < 512) (hs : SzOk (M 31)) (hst : StOk (M 32)) : CtI w yX6_behind cX6_behind 6 (some .int) rm_X6_behind [.ref (wa w 30), .int (iZ ((v : Nat) : Int)), .int (iZ ((p : Nat) : Int))] M (fun z M1 => z = stepZ (M 31) (M 32) v p 1 ∧ M1 = M) := by
  refine CtI.of (by decide) (Nat.le_of_ble_eq_true rfl) rfl rfl ?_
  intro k hkL C RT
  have hst0 := hst (3 * v) (by omega)
  have hst1 := hst (3 * v + 1) (by omega)
  have hst2 := hst (3 * v + 2) (by omega)
  show WW w k 0 [(0, .ref (wa w 30)), (1, .int (iZ ((v : Nat) : Int))), (2, .int (iZ ((p : Nat) : Int)))] [] M
  refine ww_iload_n C dX6_behind_0 2 rfl ?_
  refine ww_bipush C dX6_behind_1 (by decide) ?_
  refine ww_idivN C dX6_behind_3 (by omega) (by omega) ?_
  refine ww_top (b := ((p / 64 : Nat) : Int)) (by omega) ?_
  refine ww_aload_n C dX6_behind_4 0 rfl ?_
  refine gt_X6_13 C dX6_behind_5 ?_
  refine ww_iconst C dX6_behind_8 ?_
  refine ww_iload_n C dX6_behind_9 1 rfl ?_
  refine ww_imul C dX6_behind_10 ?_
  refine al_32 C (3 * v) (z := M 32 (3 * v)) (by omega) (by omega) rfl dX6_behind_11 ?_
  refine ww_iadd C dX6_behind_12 ?_
  refine ww_istore_n C dX6_behind_13 (lv' := [(3, .int (iZ (((p / 64 : Nat) : Int) + (M 32 (3 * v))))), (0, .ref (wa w 30)), (1, .int (iZ ((v : Nat) : Int))), (2, .int (iZ ((p : Nat) : Int)))]) (by rw [hkL]; decide) rfl ?_
  refine ww_iload_n C dX6_behind_14 3 rfl ?_
  refine ww_bipush C dX6_behind_15 (by decide) ?_
  refine ww_idivN C dX6_behind_17 (by omega) (by omega) ?_
  refine ww_top (b := ((p / 8 : Nat) : Int)) (by omega) ?_
  refine ww_bipush C dX6_behind_18 (by decide) ?_
  refine ww_iremN C dX6_behind_20 (by omega) (by omega) ?_
  refine ww_top (b := ((p / 8 % 8 : Nat) : Int)) (by omega) ?_
  refine ww_aload_n C dX6_behind_21 1 rfl ?_
  refine gt_X6_13 C dX6_behind_22 ?_
  refine ww_iconst C dX6_behind_25 ?_
  refine ww_iload_n C dX6_behind_26 2 rfl ?_
  refine ww_imul C dX6_behind_27 ?_
  refine ww_iconst C dX6_behind_28 ?_
  refine ww_iadd C dX6_behind_29 ?_
  refine al_32 C (3 * v + 1) (z := M 32 (3 * v + 1)) (by omega) (by omega) rfl dX6_behind_30 ?_
  refine ww_iadd C dX6_behind_31 ?_
  refine ww_istore C dX6_behind_32 (lv' := [(4, .int (iZ (((p / 8 % 8 : Nat) : Int) + (M 32 (3 * v + 1))))), (3, .int (iZ (((p / 64 : Nat) : Int) + (M 32 (3 * v))))), (0, .ref (wa w 30)), (1, .int (iZ ((v : Nat) : Int))), (2, .int (iZ ((p : Nat) : Int)))]) (by rw [hkL]; decide) rfl ?_
  refine ww_iload_n C dX6_behind_34 4 rfl ?_
  refine ww_bipush C dX6_behind_35 (by decide) ?_
  refine ww_iremN C dX6_behind_37 (by omega) (by omega) ?_
  refine ww_top (b := ((p % 8 : Nat) : Int)) (by omega) ?_
  refine ww_aload_n C dX6_behind_38 2 rfl ?_
  refine gt_X6_13 C dX6_behind_39 ?_
  refine ww_iconst C dX6_behind_42 ?_
  refine ww_iload_n C dX6_behind_43 3 rfl ?_
  refine ww_imul C dX6_behind_44 ?_
  refine ww_iconst C dX6_behind_45 ?_
  refine ww_iadd C dX6_behind_46 ?_
  refine al_32 C (3 * v + 2) (z := M 32 (3 * v + 2)) (by omega) (by omega) rfl dX6_behind_47 ?_
  refine ww_iadd C dX6_behind_48 ?_
  refine ww_istore C dX6_behind_49 (lv' := [(5, .int (iZ (((p % 8 : Nat) : Int) + (M 32 (3 * v + 2))))), (4, .int (iZ (((p / 8 % 8 : Nat) : Int) + (M 32 (3 * v + 1))))), (3, .int (iZ (((p / 64 : Nat) : Int) + (M 32 (3 * v))))), (0, .ref (wa w 30)), (1, .int (iZ ((v : Nat) : Int))), (2, .int (iZ ((p : Nat) : Int)))]) (by rw [hkL]; decide) rfl ?_
  refine ww_aload_n C dX6_behind_51 3 rfl ?_
  refine ww_iload_n C dX6_behind_52 2 rfl ?_
  refine ww_iload C dX6_behind_53 1 rfl ?_
  refine ww_iload C dX6_behind_55 0 rfl ?_
  refine ww_callV C (As := [.int (iZ (((p / 64 : Nat) : Int) + (M 32 (3 * v)))), .int (iZ (((p / 8 % 8 : Nat) : Int) + (M 32 (3 * v + 1)))), .int (iZ (((p % 8 : Nat) : Int) + (M 32 (3 * v + 2))))]) 30 (by decide) (ct_X6_isPoint w M (((p / 64 : Nat) : Int) + (M 32 (3 * v))) (((p / 8 % 8 : Nat) : Int) + (M 32 (3 * v + 1))) (((p % 8 : Nat) : Int) + (M 32 (3 * v + 2))) (by omega) (by omega) (by omega) (hs)) mf_X6_isPoint ml_X6_61 rfl rfl (by decide) rfl rfl (Nat.le_of_ble_eq_true rfl) dX6_behind_57 (fun z_57 M_57 hp_57 => ?_)
  rw [hp_57.1, hp_57.2]
  refine ww_ifb_eq C 79 dX6_behind_60 (by decide) (fun c_60 => ?_) (fun c_60 => ?_)
  · refine ww_iconst C dX6_behind_79 ?_
    exact RT _ _ _ _ dX6_behind_80 (⟨by unfold stepZ codeZ; split <;> omega, rfl⟩)
  · refine ww_bipush C dX6_behind_63 (by decide) ?_
    refine ww_iload_n C dX6_behind_65 2 rfl ?_
    refine ww_imul C dX6_behind_66 ?_
    refine ww_bipush C dX6_behind_67 (by decide) ?_
    refine ww_iload C dX6_behind_69 1 rfl ?_
    refine ww_imul C dX6_behind_71 ?_
    refine ww_iadd C dX6_behind_72 ?_
    refine ww_iload C dX6_behind_73 0 rfl ?_
    refine ww_iadd C dX6_behind_75 ?_
    refine ww_goto C 80 dX6_behind_76 (by decide) ?_
    exact RT _ _ _ _ dX6_behind_80 (⟨by unfold stepZ codeZ; split <;> omega, rfl⟩)
set_option maxRecDepth 100000 in
set_option maxHeartbeats 4000000 in
theorem ct_X6_isPointNumber (w : WLD) (M : Mem) (p : Nat) (hp : p < 512) (hs : SzOk (M 31)) : CtI w yX6_isPointNumber cX6_isPointNumber 2 (some .boolean) rm_X6_isPointNumber [.ref (wa w 30), .int (iZ ((p : Nat) : Int))] M (fun z M1 => z = b2i (isP (M 31) p) ∧ M1 = M) := by
  refine CtI.ofZ (by decide) (Nat.le_of_ble_eq_true rfl) rfl rfl (fun z M9 h9 => by rw [h9.1]; exact b2i_01 _) ?_
  intro k hkL C RT
  show WW w k 0 [(0, .ref (wa w 30)), (1, .int (iZ ((p : Nat) : Int)))] [] M
  refine ww_aload_n C dX6_isPointNumber_0 0 rfl ?_
  refine ww_iload_n C dX6_isPointNumber_1 1 rfl ?_
  refine ww_bipush C dX6_isPointNumber_2 (by decide) ?_
  refine ww_idivN C dX6_isPointNumber_4 (by omega) (by omega) ?_
  refine ww_top (b := ((p / 64 : Nat) : Int)) (by omega) ?_
  refine ww_iload_n C dX6_isPointNumber_5 1 rfl ?_
  refine ww_bipush C dX6_isPointNumber_6 (by decide) ?_
  refine ww_idivN C dX6_isPointNumber_8 (by omega) (by omega) ?_
  refine ww_top (b := ((p / 8 : Nat) : Int)) (by omega) ?_
  refine ww_bipush C dX6_isPointNumber_9 (by decide) ?_
  refine ww_iremN C dX6_isPointNumber_11 (by omega) (by omega) ?_
  refine ww_top (b := ((p / 8 % 8 : Nat) : Int)) (by omega) ?_
  refine ww_iload_n C dX6_isPointNumber_12 1 rfl ?_
  refine ww_bipush C dX6_isPointNumber_13 (by decide) ?_
  refine ww_iremN C dX6_isPointNumber_15 (by omega) (by omega) ?_
  refine ww_top (b := ((p % 8 : Nat) : Int)) (by omega) ?_
  refine ww_callV C (As := [.int (iZ ((p / 64 : Nat) : Int)), .int (iZ ((p / 8 % 8 : Nat) : Int)), .int (iZ ((p % 8 : Nat) : Int))]) 30 (by decide) (ct_X6_isPoint w M ((p / 64 : Nat) : Int) ((p / 8 % 8 : Nat) : Int) ((p % 8 : Nat) : Int) (by omega) (by omega) (by omega) (hs)) mf_X6_isPoint ml_X6_61 rfl rfl (by decide) rfl rfl (Nat.le_of_ble_eq_true rfl) dX6_isPointNumber_16 (fun z_16 M_16 hp_16 => ?_)
  rw [hp_16.1, hp_16.2]
  exact RT _ _ _ _ dX6_isPointNumber_19 (⟨b2i_c (by constructor <;> intro h9 <;> omega), rfl⟩)
set_option maxRecDepth 100000 in
set_option maxHeartbeats 4000000 in
theorem ct_X6_points (w : WLD) (M : Mem)  : CtI w yX6_points cX6_points 1 (some .int) rm_X6_points [.ref (wa w 30)] M (fun z M1 => z = M 31 0 * M 31 1 * M 31 2 ∧ M1 = M) := by
  refine CtI.of (by decide) (Nat.le_of_ble_eq_true rfl) rfl rfl ?_
  intro k hkL C RT
  show WW w k 0 [(0, .ref (wa w 30))] [] M
  refine ww_aload_n C dX6_points_0 0 rfl ?_
  refine gt_X6_7 C dX6_points_1 ?_
  refine ww_iconst C dX6_points_4 ?_
  refine al_31 C 0 (z := M 31 0) rfl (by omega) rfl dX6_points_5 ?_
  refine ww_aload_n C dX6_points_6 0 rfl ?_
  refine gt_X6_7 C dX6_points_7 ?_
  refine ww_iconst C dX6_points_10 ?_
  refine al_31 C 1 (z := M 31 1) rfl (by omega) rfl dX6_points_11 ?_
  refine ww_imul C dX6_points_12 ?_
  refine ww_aload_n C dX6_points_13 0 rfl ?_
  refine gt_X6_7 C dX6_points_14 ?_
  refine ww_iconst C dX6_points_17 ?_
  refine al_31 C 2 (z := M 31 2) rfl (by omega) rfl dX6_points_18 ?_
  refine ww_imul C dX6_points_19 ?_
  exact RT _ _ _ _ dX6_points_20 (⟨rfl, rfl⟩)
set_option maxRecDepth 100000 in
set_option maxHeartbeats 4000000 in
theorem ct_X6_noEdges (w : WLD) (M : Mem)  : CtV w yX6_noEdges cX6_noEdges 2 rm_X6_noEdges [.ref (wa w 30)] M (fun M1 => M1 = ups M 36 (fil 2048 0 (M 36))) := by
  refine CtV.of (by decide) (Nat.le_of_ble_eq_true rfl) rfl rfl ?_
  intro k hkL C RT
  show WW w k 0 [(0, .ref (wa w 30))] [] M
  refine ww_iconst C dX6_noEdges_0 ?_
  refine ww_istore_n C dX6_noEdges_1 (lv' := [(1, .int (iZ 0)), (0, .ref (wa w 30))]) (by rw [hkL]; decide) rfl ?_
  have L_2 : ∀ (fuel : Nat) (t : Nat) (ht : t ≤ 2048), 2048 - t < fuel → WW w k 2 [(0, .ref (wa w 30)), (1, .int (iZ ((t : Nat) : Int)))] [] (ups M 36 (fil t 0 (M 36))) := by
    intro fuel
    induction fuel with
    | zero => intro t ht hf_2; exact absurd hf_2 (Nat.not_lt_zero _)
    | succ fuel ih_2 =>
      intro t ht hf_2
      refine ww_iload_n C dX6_noEdges_2 1 rfl ?_
      refine ww_sipush C dX6_noEdges_3 (by decide) ?_
      refine ww_icmp_ge C 22 dX6_noEdges_6 (by decide) (by omega) (by omega) (fun c_6 => ?_) (fun c_6 => ?_)
      · exact RT _ _ _ dX6_noEdges_22 (by rw [show t = 2048 by omega])
      · refine ww_aload_n C dX6_noEdges_9 0 rfl ?_
        refine gt_X6_25 C dX6_noEdges_10 ?_
        refine ww_iload_n C dX6_noEdges_13 1 rfl ?_
        refine ww_iconst C dX6_noEdges_14 ?_
        refine as_36 C t rfl (by omega) dX6_noEdges_15 ?_
        refine ww_mem (M1 := ups M 36 (fil (t + 1) 0 (M 36))) (by rw [ups_ups]; show ups M 36 (up1 (fil t 0 (M 36)) t 0) = _; rw [fil_s]) ?_
        refine ww_iinc2 C dX6_noEdges_16 1 rfl (b := ((t + 1 : Nat) : Int)) (by omega) (lv' := [(1, .int (iZ ((t + 1 : Nat) : Int))), (0, .ref (wa w 30))]) (by rw [hkL]; decide) rfl ?_
        refine ww_goto C 2 dX6_noEdges_19 (by decide) ?_
        refine ww_sub [1, 0] rfl ?_
        exact ih_2 (t + 1) (by omega) (by omega)
  refine ww_sub [1, 0] rfl ?_
  refine ww_mem (M1 := ups M 36 (fil 0 0 (M 36))) (by rw [fil_0, ups_id]) ?_
  exact L_2 _ 0 (by omega) (Nat.lt_succ_self _)
set_option maxRecDepth 100000 in
set_option maxHeartbeats 4000000 in
theorem ct_X6_sizes (w : WLD) (M : Mem) (a b c : Int) (h1 : R32 a) (h2 : R32 b) (h3 : R32 c) : CtI w yX6_sizes cX6_sizes 4 (some .boolean) rm_X6_sizes [.ref (wa w 30), .int (iZ a), .int (iZ b), .int (iZ c)] M (fun z M1 => (((1 ≤ a ∧ a ≤ 8) ∧ (1 ≤ b ∧ b ≤ 8) ∧ (1 ≤ c ∧ c ≤ 8)) ∧ z = 1 ∧ M1 = ups (ups (ups M 31 (up1 (up1 (up1 (M 31) 0 a) 1 b) 2 c)) 36 (fil 2048 0 (M 36))) 30 (up1 (M 30) 9 0)) ∨ (¬ ((1 ≤ a ∧ a ≤ 8) ∧ (1 ≤ b ∧ b ≤ 8) ∧ (1 ≤ c ∧ c ≤ 8)) ∧ z = 0 ∧ M1 = M)) := by
  refine CtI.ofZ (by decide) (Nat.le_of_ble_eq_true rfl) rfl rfl (fun z M9 h9 => by rcases h9 with h9 | h9; exact Or.inr h9.2.1; exact Or.inl h9.2.1) ?_
  intro k hkL C RT
  show WW w k 0 [(0, .ref (wa w 30)), (1, .int (iZ a)), (2, .int (iZ b)), (3, .int (iZ c))] [] M
  refine ww_iload_n C dX6_sizes_0 1 rfl ?_
  refine ww_iconst C dX6_sizes_1 ?_
  refine ww_bipush C dX6_sizes_2 (by decide) ?_
  refine ww_callS C (As := [.int (iZ a), .int (iZ 1), .int (iZ 8)]) (ct_X6_in w M a 1 8 (by omega) (by omega) (by omega)) mf_X6_in ml_X6_54 (by decide) rfl rfl (Nat.le_of_ble_eq_true rfl) dX6_sizes_4 (fun z_4 M_4 hp_4 => ?_)
  rw [hp_4.1, hp_4.2]
  refine ww_ifb_eq C 30 dX6_sizes_7 (by decide) (fun c_7 => ?_) (fun c_7 => ?_)
  · refine ww_iconst C dX6_sizes_30 ?_
    exact RT _ _ _ _ dX6_sizes_31 (by first | exact Or.inr ⟨by omega, rfl, rfl⟩ | exact Or.inl ⟨by omega, rfl, rfl⟩)
  · refine ww_iload_n C dX6_sizes_10 2 rfl ?_
    refine ww_iconst C dX6_sizes_11 ?_
    refine ww_bipush C dX6_sizes_12 (by decide) ?_
    refine ww_callS C (As := [.int (iZ b), .int (iZ 1), .int (iZ 8)]) (ct_X6_in w M b 1 8 (by omega) (by omega) (by omega)) mf_X6_in ml_X6_54 (by decide) rfl rfl (Nat.le_of_ble_eq_true rfl) dX6_sizes_14 (fun z_14 M_14 hp_14 => ?_)
    rw [hp_14.1, hp_14.2]
    refine ww_ifb_eq C 30 dX6_sizes_17 (by decide) (fun c_17 => ?_) (fun c_17 => ?_)
    · refine ww_iconst C dX6_sizes_30 ?_
      exact RT _ _ _ _ dX6_sizes_31 (by first | exact Or.inr ⟨by omega, rfl, rfl⟩ | exact Or.inl ⟨by omega, rfl, rfl⟩)
    · refine ww_iload_n C dX6_sizes_20 3 rfl ?_
      refine ww_iconst C dX6_sizes_21 ?_
      refine ww_bipush C dX6_sizes_22 (by decide) ?_
      refine ww_callS C (As := [.int (iZ c), .int (iZ 1), .int (iZ 8)]) (ct_X6_in w M c 1 8 (by omega) (by omega) (by omega)) mf_X6_in ml_X6_54 (by decide) rfl rfl (Nat.le_of_ble_eq_true rfl) dX6_sizes_24 (fun z_24 M_24 hp_24 => ?_)
      rw [hp_24.1, hp_24.2]
      refine ww_ifb_ne C 32 dX6_sizes_27 (by decide) (fun c_27 => ?_) (fun c_27 => ?_)
      · refine ww_aload_n C dX6_sizes_32 0 rfl ?_
        refine gt_X6_7 C dX6_sizes_33 ?_
        refine ww_iconst C dX6_sizes_36 ?_
        refine ww_iload_n C dX6_sizes_37 1 rfl ?_
        refine as_31 C 0 rfl (by omega) dX6_sizes_38 ?_
        refine ww_aload_n C dX6_sizes_39 0 rfl ?_
        refine gt_X6_7 C dX6_sizes_40 ?_
        refine ww_iconst C dX6_sizes_43 ?_
        refine ww_iload_n C dX6_sizes_44 2 rfl ?_
        refine as_31 C 1 rfl (by omega) dX6_sizes_45 ?_
        refine ww_mem (M1 := ups M 31 (up1 (up1 (M 31) 0 a) 1 b)) (ups_ups) ?_
        refine ww_aload_n C dX6_sizes_46 0 rfl ?_
        refine gt_X6_7 C dX6_sizes_47 ?_
        refine ww_iconst C dX6_sizes_50 ?_
        refine ww_iload_n C dX6_sizes_51 3 rfl ?_
        refine as_31 C 2 rfl (by omega) dX6_sizes_52 ?_
        refine ww_mem (M1 := ups M 31 (up1 (up1 (up1 (M 31) 0 a) 1 b) 2 c)) (ups_ups) ?_
        refine ww_aload_n C dX6_sizes_53 0 rfl ?_
        refine ww_callVV C (As := []) 30 (by decide) (ct_X6_noEdges w (ups M 31 (up1 (up1 (up1 (M 31) 0 a) 1 b) 2 c)) ) mf_X6_noEdges ml_X6_64 rfl rfl (by decide) rfl rfl (Nat.le_of_ble_eq_true rfl) dX6_sizes_54 (fun M_54 hp_54 => ?_)
        rw [hp_54]
        refine ww_mem (M1 := ups (ups M 31 (up1 (up1 (up1 (M 31) 0 a) 1 b) 2 c)) 36 (fil 2048 0 ((M 36)))) rfl ?_
        refine ww_aload_n C dX6_sizes_57 0 rfl ?_
        refine ww_iconst C dX6_sizes_58 ?_
        refine pt_X6_67 C (by decide) dX6_sizes_59 ?_
        refine ww_mem (M1 := ups (ups (ups M 31 (up1 (up1 (up1 (M 31) 0 a) 1 b) 2 c)) 36 (fil 2048 0 ((M 36)))) 30 (up1 (M 30) 9 0)) rfl ?_
        refine ww_iconst C dX6_sizes_62 ?_
        exact RT _ _ _ _ dX6_sizes_63 (by first | exact Or.inr ⟨by omega, rfl, rfl⟩ | exact Or.inl ⟨by omega, rfl, rfl⟩)
      · refine ww_iconst C dX6_sizes_30 ?_
        exact RT _ _ _ _ dX6_sizes_31 (by first | exact Or.inr ⟨by omega, rfl, rfl⟩ | exact Or.inl ⟨by omega, rfl, rfl⟩)
set_option maxRecDepth 100000 in
set_option maxHeartbeats 4000000 in
theorem ct_X6_variable (w : WLD) (M : Mem) (v : Nat) (a b c : Int) (h1 : R32 a) (h2 : R32 b) (h3 : R32 c) (hv : M 30 1 = (v : Int)) (hv4 : v ≤ 4) : CtI w yX6_variable cX6_variable 6 (some .int) rm_X6_variable [.ref (wa w 30), .int (iZ a), .int (iZ b), .int (iZ c)] M (fun z M1 => ((((-2 ≤ a ∧ a ≤ 2) ∧ (-2 ≤ b ∧ b ≤ 2) ∧ (-2 ≤ c ∧ c ≤ 2) ∧ (0 < a ∨ (a = 0 ∧ (0 < b ∨ (b = 0 ∧ 0 < c))))) ∧ v < 4) ∧ z = (v : Int) ∧ M1 = ups (ups (ups (ups (ups M 32 (up1 (up1 (up1 (M 32) (3 * v) a) (3 * v + 1) b) (3 * v + 2) c)) 33 (up1 (M 33) v 0)) 34 (up1 (M 34) v 0)) 35 (up1 (M 35) v 0)) 30 (up1 (up1 (M 30) 1 ((v + 1 : Nat) : Int)) 9 0)) ∨ (¬ (((-2 ≤ a ∧ a ≤ 2) ∧ (-2 ≤ b ∧ b ≤ 2) ∧ (-2 ≤ c ∧ c ≤ 2) ∧ (0 < a ∨ (a = 0 ∧ (0 < b ∨ (b = 0 ∧ 0 < c))))) ∧ v < 4) ∧ z = -1 ∧ M1 = M)) := by
  refine CtI.of (by decide) (Nat.le_of_ble_eq_true rfl) rfl rfl ?_
  intro k hkL C RT
  show WW w k 0 [(0, .ref (wa w 30)), (1, .int (iZ a)), (2, .int (iZ b)), (3, .int (iZ c))] [] M
  refine ww_iload_n C dX6_variable_0 1 rfl ?_
  refine ww_if_eq C 8 dX6_variable_1 (by decide) (by omega) (fun c_1 => ?_) (fun c_1 => ?_)
  · refine ww_iload_n C dX6_variable_8 2 rfl ?_
    refine ww_if_eq C 16 dX6_variable_9 (by decide) (by omega) (fun c_9 => ?_) (fun c_9 => ?_)
    · refine ww_iload_n C dX6_variable_16 3 rfl ?_
      refine ww_istore C dX6_variable_17 (lv' := [(4, .int (iZ c)), (0, .ref (wa w 30)), (1, .int (iZ a)), (2, .int (iZ b)), (3, .int (iZ c))]) (by rw [hkL]; decide) rfl ?_
      refine ww_iload_n C dX6_variable_19 2 rfl ?_
      refine ww_bipush C dX6_variable_20 (by decide) ?_
      refine ww_iconst C dX6_variable_22 ?_
      refine ww_callS C (As := [.int (iZ a), .int (iZ (-2)), .int (iZ 2)]) (ct_X6_in w M a (-2) 2 (by omega) (by omega) (by omega)) mf_X6_in ml_X6_54 (by decide) rfl rfl (Nat.le_of_ble_eq_true rfl) dX6_variable_23 (fun z_23 M_23 hp_23 => ?_)
      rw [hp_23.1, hp_23.2]
      refine ww_ifb_eq C 62 dX6_variable_26 (by decide) (fun c_26 => ?_) (fun c_26 => ?_)
      · refine ww_iconst C dX6_variable_62 ?_
        exact RT _ _ _ _ dX6_variable_63 (by first | exact Or.inr ⟨by omega, rfl, rfl⟩ | exact Or.inl ⟨by omega, rfl, rfl⟩)
      · refine ww_iload_n C dX6_variable_29 3 rfl ?_
        refine ww_bipush C dX6_variable_30 (by decide) ?_
        refine ww_iconst C dX6_variable_32 ?_
        refine ww_callS C (As := [.int (iZ b), .int (iZ (-2)), .int (iZ 2)]) (ct_X6_in w M b (-2) 2 (by omega) (by omega) (by omega)) mf_X6_in ml_X6_54 (by decide) rfl rfl (Nat.le_of_ble_eq_true rfl) dX6_variable_33 (fun z_33 M_33 hp_33 => ?_)
        rw [hp_33.1, hp_33.2]
        refine ww_ifb_eq C 62 dX6_variable_36 (by decide) (fun c_36 => ?_) (fun c_36 => ?_)
        · refine ww_iconst C dX6_variable_62 ?_
          exact RT _ _ _ _ dX6_variable_63 (by first | exact Or.inr ⟨by omega, rfl, rfl⟩ | exact Or.inl ⟨by omega, rfl, rfl⟩)
        · refine ww_iload_n C dX6_variable_39 4 rfl ?_
          refine ww_bipush C dX6_variable_40 (by decide) ?_
          refine ww_iconst C dX6_variable_42 ?_
          refine ww_callS C (As := [.int (iZ c), .int (iZ (-2)), .int (iZ 2)]) (ct_X6_in w M c (-2) 2 (by omega) (by omega) (by omega)) mf_X6_in ml_X6_54 (by decide) rfl rfl (Nat.le_of_ble_eq_true rfl) dX6_variable_43 (fun z_43 M_43 hp_43 => ?_)
          rw [hp_43.1, hp_43.2]
          refine ww_ifb_eq C 62 dX6_variable_46 (by decide) (fun c_46 => ?_) (fun c_46 => ?_)
          · refine ww_iconst C dX6_variable_62 ?_
            exact RT _ _ _ _ dX6_variable_63 (by first | exact Or.inr ⟨by omega, rfl, rfl⟩ | exact Or.inl ⟨by omega, rfl, rfl⟩)
          · refine ww_iload C dX6_variable_49 0 rfl ?_
            refine ww_if_le C 62 dX6_variable_51 (by decide) (by omega) (fun c_51 => ?_) (fun c_51 => ?_)
            · refine ww_iconst C dX6_variable_62 ?_
              exact RT _ _ _ _ dX6_variable_63 (by first | exact Or.inr ⟨by omega, rfl, rfl⟩ | exact Or.inl ⟨by omega, rfl, rfl⟩)
            · refine ww_aload_n C dX6_variable_54 1 rfl ?_
              refine gt_X6_58 C dX6_variable_55 ?_
              refine ww_top (b := ((v : Nat) : Int)) (hv) ?_
              refine ww_iconst C dX6_variable_58 ?_
              refine ww_icmp_ne C 64 dX6_variable_59 (by decide) (by omega) (by omega) (fun c_59 => ?_) (fun c_59 => ?_)
              · refine ww_aload_n C dX6_variable_64 1 rfl ?_
                refine gt_X6_58 C dX6_variable_65 ?_
                refine ww_top (b := ((v : Nat) : Int)) (hv) ?_
                refine ww_istore C dX6_variable_68 (lv' := [(5, .int (iZ ((v : Nat) : Int))), (4, .int (iZ c)), (0, .ref (wa w 30)), (1, .int (iZ a)), (2, .int (iZ b)), (3, .int (iZ c))]) (by rw [hkL]; decide) rfl ?_
                refine ww_aload_n C dX6_variable_70 2 rfl ?_
                refine gt_X6_13 C dX6_variable_71 ?_
                refine ww_iconst C dX6_variable_74 ?_
                refine ww_iload C dX6_variable_75 0 rfl ?_
                refine ww_imul C dX6_variable_77 ?_
                refine ww_iload_n C dX6_variable_78 3 rfl ?_
                refine as_32 C (3 * v) (by omega) (by omega) dX6_variable_79 ?_
                refine ww_aload_n C dX6_variable_80 2 rfl ?_
                refine gt_X6_13 C dX6_variable_81 ?_
                refine ww_iconst C dX6_variable_84 ?_
                refine ww_iload C dX6_variable_85 0 rfl ?_
                refine ww_imul C dX6_variable_87 ?_
                refine ww_iconst C dX6_variable_88 ?_
                refine ww_iadd C dX6_variable_89 ?_
                refine ww_iload_n C dX6_variable_90 4 rfl ?_
                refine as_32 C (3 * v + 1) (by omega) (by omega) dX6_variable_91 ?_
                refine ww_mem (M1 := ups M 32 (up1 (up1 (M 32) (3 * v) a) (3 * v + 1) b)) (ups_ups) ?_
                refine ww_aload_n C dX6_variable_92 2 rfl ?_
                refine gt_X6_13 C dX6_variable_93 ?_
                refine ww_iconst C dX6_variable_96 ?_
                refine ww_iload C dX6_variable_97 0 rfl ?_
                refine ww_imul C dX6_variable_99 ?_
                refine ww_iconst C dX6_variable_100 ?_
                refine ww_iadd C dX6_variable_101 ?_
                refine ww_iload_n C dX6_variable_102 5 rfl ?_
                refine as_32 C (3 * v + 2) (by omega) (by omega) dX6_variable_103 ?_
                refine ww_mem (M1 := ups M 32 (up1 (up1 (up1 (M 32) (3 * v) a) (3 * v + 1) b) (3 * v + 2) c)) (ups_ups) ?_
                refine ww_aload_n C dX6_variable_104 2 rfl ?_
                refine gt_X6_16 C dX6_variable_105 ?_
                refine ww_iload C dX6_variable_108 0 rfl ?_
                refine ww_iconst C dX6_variable_110 ?_
                refine as_33 C v rfl (by omega) dX6_variable_111 ?_
                refine ww_mem (M1 := ups (ups M 32 (up1 (up1 (up1 (M 32) (3 * v) a) (3 * v + 1) b) (3 * v + 2) c)) 33 (up1 (M 33) v 0)) rfl ?_
                refine ww_aload_n C dX6_variable_112 2 rfl ?_
                refine gt_X6_19 C dX6_variable_113 ?_
                refine ww_iload C dX6_variable_116 0 rfl ?_
                refine ww_iconst C dX6_variable_118 ?_
                refine as_34 C v rfl (by omega) dX6_variable_119 ?_
                refine ww_mem (M1 := ups (ups (ups M 32 (up1 (up1 (up1 (M 32) (3 * v) a) (3 * v + 1) b) (3 * v + 2) c)) 33 (up1 (M 33) v 0)) 34 (up1 (M 34) v 0)) rfl ?_
                refine ww_aload_n C dX6_variable_120 2 rfl ?_
                refine gt_X6_22 C dX6_variable_121 ?_
                refine ww_iload C dX6_variable_124 0 rfl ?_
                refine ww_iconst C dX6_variable_126 ?_
                refine as_35 C v rfl (by omega) dX6_variable_127 ?_
                refine ww_mem (M1 := ups (ups (ups (ups M 32 (up1 (up1 (up1 (M 32) (3 * v) a) (3 * v + 1) b) (3 * v + 2) c)) 33 (up1 (M 33) v 0)) 34 (up1 (M 34) v 0)) 35 (up1 (M 35) v 0)) rfl ?_
                refine ww_aload_n C dX6_variable_128 2 rfl ?_
                refine ww_dup C dX6_variable_129 rfl ?_
                refine gt_X6_58 C dX6_variable_130 ?_
                refine ww_top (b := ((v : Nat) : Int)) (hv) ?_
                refine ww_iconst C dX6_variable_133 ?_
                refine ww_iadd C dX6_variable_134 ?_
                refine ww_top (b := ((v + 1 : Nat) : Int)) (by omega) ?_
                refine pt_X6_58 C dX6_variable_135 ?_
                refine ww_mem (M1 := ups (ups (ups (ups (ups M 32 (up1 (up1 (up1 (M 32) (3 * v) a) (3 * v + 1) b) (3 * v + 2) c)) 33 (up1 (M 33) v 0)) 34 (up1 (M 34) v 0)) 35 (up1 (M 35) v 0)) 30 (up1 (M 30) 1 ((v + 1 : Nat) : Int))) rfl ?_
                refine ww_aload_n C dX6_variable_138 2 rfl ?_
                refine ww_iconst C dX6_variable_139 ?_
                refine pt_X6_67 C (by decide) dX6_variable_140 ?_
                refine ww_mem (M1 := ups (ups (ups (ups (ups M 32 (up1 (up1 (up1 (M 32) (3 * v) a) (3 * v + 1) b) (3 * v + 2) c)) 33 (up1 (M 33) v 0)) 34 (up1 (M 34) v 0)) 35 (up1 (M 35) v 0)) 30 (up1 (up1 (M 30) 1 ((v + 1 : Nat) : Int)) 9 0)) (ups_ups) ?_
                refine ww_iload C dX6_variable_143 0 rfl ?_
                exact RT _ _ _ _ dX6_variable_145 (by first | exact Or.inr ⟨by omega, rfl, rfl⟩ | exact Or.inl ⟨by omega, rfl, rfl⟩)
              · refine ww_iconst C dX6_variable_62 ?_
                exact RT _ _ _ _ dX6_variable_63 (by first | exact Or.inr ⟨by omega, rfl, rfl⟩ | exact Or.inl ⟨by omega, rfl, rfl⟩)
    · refine ww_iload_n C dX6_variable_12 2 rfl ?_
      refine ww_goto C 17 dX6_variable_13 (by decide) ?_
      refine ww_istore C dX6_variable_17 (lv' := [(4, .int (iZ b)), (0, .ref (wa w 30)), (1, .int (iZ a)), (2, .int (iZ b)), (3, .int (iZ c))]) (by rw [hkL]; decide) rfl ?_
      refine ww_iload_n C dX6_variable_19 2 rfl ?_
      refine ww_bipush C dX6_variable_20 (by decide) ?_
      refine ww_iconst C dX6_variable_22 ?_
      refine ww_callS C (As := [.int (iZ a), .int (iZ (-2)), .int (iZ 2)]) (ct_X6_in w M a (-2) 2 (by omega) (by omega) (by omega)) mf_X6_in ml_X6_54 (by decide) rfl rfl (Nat.le_of_ble_eq_true rfl) dX6_variable_23 (fun z_23 M_23 hp_23 => ?_)
      rw [hp_23.1, hp_23.2]
      refine ww_ifb_eq C 62 dX6_variable_26 (by decide) (fun c_26 => ?_) (fun c_26 => ?_)
      · refine ww_iconst C dX6_variable_62 ?_
        exact RT _ _ _ _ dX6_variable_63 (by first | exact Or.inr ⟨by omega, rfl, rfl⟩ | exact Or.inl ⟨by omega, rfl, rfl⟩)
      · refine ww_iload_n C dX6_variable_29 3 rfl ?_
        refine ww_bipush C dX6_variable_30 (by decide) ?_
        refine ww_iconst C dX6_variable_32 ?_
        refine ww_callS C (As := [.int (iZ b), .int (iZ (-2)), .int (iZ 2)]) (ct_X6_in w M b (-2) 2 (by omega) (by omega) (by omega)) mf_X6_in ml_X6_54 (by decide) rfl rfl (Nat.le_of_ble_eq_true rfl) dX6_variable_33 (fun z_33 M_33 hp_33 => ?_)
        rw [hp_33.1, hp_33.2]
        refine ww_ifb_eq C 62 dX6_variable_36 (by decide) (fun c_36 => ?_) (fun c_36 => ?_)
        · refine ww_iconst C dX6_variable_62 ?_
          exact RT _ _ _ _ dX6_variable_63 (by first | exact Or.inr ⟨by omega, rfl, rfl⟩ | exact Or.inl ⟨by omega, rfl, rfl⟩)
        · refine ww_iload_n C dX6_variable_39 4 rfl ?_
          refine ww_bipush C dX6_variable_40 (by decide) ?_
          refine ww_iconst C dX6_variable_42 ?_
          refine ww_callS C (As := [.int (iZ c), .int (iZ (-2)), .int (iZ 2)]) (ct_X6_in w M c (-2) 2 (by omega) (by omega) (by omega)) mf_X6_in ml_X6_54 (by decide) rfl rfl (Nat.le_of_ble_eq_true rfl) dX6_variable_43 (fun z_43 M_43 hp_43 => ?_)
          rw [hp_43.1, hp_43.2]
          refine ww_ifb_eq C 62 dX6_variable_46 (by decide) (fun c_46 => ?_) (fun c_46 => ?_)
          · refine ww_iconst C dX6_variable_62 ?_
            exact RT _ _ _ _ dX6_variable_63 (by first | exact Or.inr ⟨by omega, rfl, rfl⟩ | exact Or.inl ⟨by omega, rfl, rfl⟩)
          · refine ww_iload C dX6_variable_49 0 rfl ?_
            refine ww_if_le C 62 dX6_variable_51 (by decide) (by omega) (fun c_51 => ?_) (fun c_51 => ?_)
            · refine ww_iconst C dX6_variable_62 ?_
              exact RT _ _ _ _ dX6_variable_63 (by first | exact Or.inr ⟨by omega, rfl, rfl⟩ | exact Or.inl ⟨by omega, rfl, rfl⟩)
            · refine ww_aload_n C dX6_variable_54 1 rfl ?_
              refine gt_X6_58 C dX6_variable_55 ?_
              refine ww_top (b := ((v : Nat) : Int)) (hv) ?_
              refine ww_iconst C dX6_variable_58 ?_
              refine ww_icmp_ne C 64 dX6_variable_59 (by decide) (by omega) (by omega) (fun c_59 => ?_) (fun c_59 => ?_)
              · refine ww_aload_n C dX6_variable_64 1 rfl ?_
                refine gt_X6_58 C dX6_variable_65 ?_
                refine ww_top (b := ((v : Nat) : Int)) (hv) ?_
                refine ww_istore C dX6_variable_68 (lv' := [(5, .int (iZ ((v : Nat) : Int))), (4, .int (iZ b)), (0, .ref (wa w 30)), (1, .int (iZ a)), (2, .int (iZ b)), (3, .int (iZ c))]) (by rw [hkL]; decide) rfl ?_
                refine ww_aload_n C dX6_variable_70 2 rfl ?_
                refine gt_X6_13 C dX6_variable_71 ?_
                refine ww_iconst C dX6_variable_74 ?_
                refine ww_iload C dX6_variable_75 0 rfl ?_
                refine ww_imul C dX6_variable_77 ?_
                refine ww_iload_n C dX6_variable_78 3 rfl ?_
                refine as_32 C (3 * v) (by omega) (by omega) dX6_variable_79 ?_
                refine ww_aload_n C dX6_variable_80 2 rfl ?_
                refine gt_X6_13 C dX6_variable_81 ?_
                refine ww_iconst C dX6_variable_84 ?_
                refine ww_iload C dX6_variable_85 0 rfl ?_
                refine ww_imul C dX6_variable_87 ?_
                refine ww_iconst C dX6_variable_88 ?_
                refine ww_iadd C dX6_variable_89 ?_
                refine ww_iload_n C dX6_variable_90 4 rfl ?_
                refine as_32 C (3 * v + 1) (by omega) (by omega) dX6_variable_91 ?_
                refine ww_mem (M1 := ups M 32 (up1 (up1 (M 32) (3 * v) a) (3 * v + 1) b)) (ups_ups) ?_
                refine ww_aload_n C dX6_variable_92 2 rfl ?_
                refine gt_X6_13 C dX6_variable_93 ?_
                refine ww_iconst C dX6_variable_96 ?_
                refine ww_iload C dX6_variable_97 0 rfl ?_
                refine ww_imul C dX6_variable_99 ?_
                refine ww_iconst C dX6_variable_100 ?_
                refine ww_iadd C dX6_variable_101 ?_
                refine ww_iload_n C dX6_variable_102 5 rfl ?_
                refine as_32 C (3 * v + 2) (by omega) (by omega) dX6_variable_103 ?_
                refine ww_mem (M1 := ups M 32 (up1 (up1 (up1 (M 32) (3 * v) a) (3 * v + 1) b) (3 * v + 2) c)) (ups_ups) ?_
                refine ww_aload_n C dX6_variable_104 2 rfl ?_
                refine gt_X6_16 C dX6_variable_105 ?_
                refine ww_iload C dX6_variable_108 0 rfl ?_
                refine ww_iconst C dX6_variable_110 ?_
                refine as_33 C v rfl (by omega) dX6_variable_111 ?_
                refine ww_mem (M1 := ups (ups M 32 (up1 (up1 (up1 (M 32) (3 * v) a) (3 * v + 1) b) (3 * v + 2) c)) 33 (up1 (M 33) v 0)) rfl ?_
                refine ww_aload_n C dX6_variable_112 2 rfl ?_
                refine gt_X6_19 C dX6_variable_113 ?_
                refine ww_iload C dX6_variable_116 0 rfl ?_
                refine ww_iconst C dX6_variable_118 ?_
                refine as_34 C v rfl (by omega) dX6_variable_119 ?_
                refine ww_mem (M1 := ups (ups (ups M 32 (up1 (up1 (up1 (M 32) (3 * v) a) (3 * v + 1) b) (3 * v + 2) c)) 33 (up1 (M 33) v 0)) 34 (up1 (M 34) v 0)) rfl ?_
                refine ww_aload_n C dX6_variable_120 2 rfl ?_
                refine gt_X6_22 C dX6_variable_121 ?_
                refine ww_iload C dX6_variable_124 0 rfl ?_
                refine ww_iconst C dX6_variable_126 ?_
                refine as_35 C v rfl (by omega) dX6_variable_127 ?_
                refine ww_mem (M1 := ups (ups (ups (ups M 32 (up1 (up1 (up1 (M 32) (3 * v) a) (3 * v + 1) b) (3 * v + 2) c)) 33 (up1 (M 33) v 0)) 34 (up1 (M 34) v 0)) 35 (up1 (M 35) v 0)) rfl ?_
                refine ww_aload_n C dX6_variable_128 2 rfl ?_
                refine ww_dup C dX6_variable_129 rfl ?_
                refine gt_X6_58 C dX6_variable_130 ?_
                refine ww_top (b := ((v : Nat) : Int)) (hv) ?_
                refine ww_iconst C dX6_variable_133 ?_
                refine ww_iadd C dX6_variable_134 ?_
                refine ww_top (b := ((v + 1 : Nat) : Int)) (by omega) ?_
                refine pt_X6_58 C dX6_variable_135 ?_
                refine ww_mem (M1 := ups (ups (ups (ups (ups M 32 (up1 (up1 (up1 (M 32) (3 * v) a) (3 * v + 1) b) (3 * v + 2) c)) 33 (up1 (M 33) v 0)) 34 (up1 (M 34) v 0)) 35 (up1 (M 35) v 0)) 30 (up1 (M 30) 1 ((v + 1 : Nat) : Int))) rfl ?_
                refine ww_aload_n C dX6_variable_138 2 rfl ?_
                refine ww_iconst C dX6_variable_139 ?_
                refine pt_X6_67 C (by decide) dX6_variable_140 ?_
                refine ww_mem (M1 := ups (ups (ups (ups (ups M 32 (up1 (up1 (up1 (M 32) (3 * v) a) (3 * v + 1) b) (3 * v + 2) c)) 33 (up1 (M 33) v 0)) 34 (up1 (M 34) v 0)) 35 (up1 (M 35) v 0)) 30 (up1 (up1 (M 30) 1 ((v + 1 : Nat) : Int)) 9 0)) (ups_ups) ?_
                refine ww_iload C dX6_variable_143 0 rfl ?_
                exact RT _ _ _ _ dX6_variable_145 (by first | exact Or.inr ⟨by omega, rfl, rfl⟩ | exact Or.inl ⟨by omega, rfl, rfl⟩)
              · refine ww_iconst C dX6_variable_62 ?_
                exact RT _ _ _ _ dX6_variable_63 (by first | exact Or.inr ⟨by omega, rfl, rfl⟩ | exact Or.inl ⟨by omega, rfl, rfl⟩)
  · refine ww_iload_n C dX6_variable_4 1 rfl ?_
    refine ww_goto C 17 dX6_variable_5 (by decide) ?_
    refine ww_istore C dX6_variable_17 (lv' := [(4, .int (iZ a)), (0, .ref (wa w 30)), (1, .int (iZ a)), (2, .int (iZ b)), (3, .int (iZ c))]) (by rw [hkL]; decide) rfl ?_
    refine ww_iload_n C dX6_variable_19 2 rfl ?_
    refine ww_bipush C dX6_variable_20 (by decide) ?_
    refine ww_iconst C dX6_variable_22 ?_
    refine ww_callS C (As := [.int (iZ a), .int (iZ (-2)), .int (iZ 2)]) (ct_X6_in w M a (-2) 2 (by omega) (by omega) (by omega)) mf_X6_in ml_X6_54 (by decide) rfl rfl (Nat.le_of_ble_eq_true rfl) dX6_variable_23 (fun z_23 M_23 hp_23 => ?_)
    rw [hp_23.1, hp_23.2]
    refine ww_ifb_eq C 62 dX6_variable_26 (by decide) (fun c_26 => ?_) (fun c_26 => ?_)
    · refine ww_iconst C dX6_variable_62 ?_
      exact RT _ _ _ _ dX6_variable_63 (by first | exact Or.inr ⟨by omega, rfl, rfl⟩ | exact Or.inl ⟨by omega, rfl, rfl⟩)
    · refine ww_iload_n C dX6_variable_29 3 rfl ?_
      refine ww_bipush C dX6_variable_30 (by decide) ?_
      refine ww_iconst C dX6_variable_32 ?_
      refine ww_callS C (As := [.int (iZ b), .int (iZ (-2)), .int (iZ 2)]) (ct_X6_in w M b (-2) 2 (by omega) (by omega) (by omega)) mf_X6_in ml_X6_54 (by decide) rfl rfl (Nat.le_of_ble_eq_true rfl) dX6_variable_33 (fun z_33 M_33 hp_33 => ?_)
      rw [hp_33.1, hp_33.2]
      refine ww_ifb_eq C 62 dX6_variable_36 (by decide) (fun c_36 => ?_) (fun c_36 => ?_)
      · refine ww_iconst C dX6_variable_62 ?_
        exact RT _ _ _ _ dX6_variable_63 (by first | exact Or.inr ⟨by omega, rfl, rfl⟩ | exact Or.inl ⟨by omega, rfl, rfl⟩)
      · refine ww_iload_n C dX6_variable_39 4 rfl ?_
        refine ww_bipush C dX6_variable_40 (by decide) ?_
        refine ww_iconst C dX6_variable_42 ?_
        refine ww_callS C (As := [.int (iZ c), .int (iZ (-2)), .int (iZ 2)]) (ct_X6_in w M c (-2) 2 (by omega) (by omega) (by omega)) mf_X6_in ml_X6_54 (by decide) rfl rfl (Nat.le_of_ble_eq_true rfl) dX6_variable_43 (fun z_43 M_43 hp_43 => ?_)
        rw [hp_43.1, hp_43.2]
        refine ww_ifb_eq C 62 dX6_variable_46 (by decide) (fun c_46 => ?_) (fun c_46 => ?_)
        · refine ww_iconst C dX6_variable_62 ?_
          exact RT _ _ _ _ dX6_variable_63 (by first | exact Or.inr ⟨by omega, rfl, rfl⟩ | exact Or.inl ⟨by omega, rfl, rfl⟩)
        · refine ww_iload C dX6_variable_49 0 rfl ?_
          refine ww_if_le C 62 dX6_variable_51 (by decide) (by omega) (fun c_51 => ?_) (fun c_51 => ?_)
          · refine ww_iconst C dX6_variable_62 ?_
            exact RT _ _ _ _ dX6_variable_63 (by first | exact Or.inr ⟨by omega, rfl, rfl⟩ | exact Or.inl ⟨by omega, rfl, rfl⟩)
          · refine ww_aload_n C dX6_variable_54 1 rfl ?_
            refine gt_X6_58 C dX6_variable_55 ?_
            refine ww_top (b := ((v : Nat) : Int)) (hv) ?_
            refine ww_iconst C dX6_variable_58 ?_
            refine ww_icmp_ne C 64 dX6_variable_59 (by decide) (by omega) (by omega) (fun c_59 => ?_) (fun c_59 => ?_)
            · refine ww_aload_n C dX6_variable_64 1 rfl ?_
              refine gt_X6_58 C dX6_variable_65 ?_
              refine ww_top (b := ((v : Nat) : Int)) (hv) ?_
              refine ww_istore C dX6_variable_68 (lv' := [(5, .int (iZ ((v : Nat) : Int))), (4, .int (iZ a)), (0, .ref (wa w 30)), (1, .int (iZ a)), (2, .int (iZ b)), (3, .int (iZ c))]) (by rw [hkL]; decide) rfl ?_
              refine ww_aload_n C dX6_variable_70 2 rfl ?_
              refine gt_X6_13 C dX6_variable_71 ?_
              refine ww_iconst C dX6_variable_74 ?_
              refine ww_iload C dX6_variable_75 0 rfl ?_
              refine ww_imul C dX6_variable_77 ?_
              refine ww_iload_n C dX6_variable_78 3 rfl ?_
              refine as_32 C (3 * v) (by omega) (by omega) dX6_variable_79 ?_
              refine ww_aload_n C dX6_variable_80 2 rfl ?_
              refine gt_X6_13 C dX6_variable_81 ?_
              refine ww_iconst C dX6_variable_84 ?_
              refine ww_iload C dX6_variable_85 0 rfl ?_
              refine ww_imul C dX6_variable_87 ?_
              refine ww_iconst C dX6_variable_88 ?_
              refine ww_iadd C dX6_variable_89 ?_
              refine ww_iload_n C dX6_variable_90 4 rfl ?_
              refine as_32 C (3 * v + 1) (by omega) (by omega) dX6_variable_91 ?_
              refine ww_mem (M1 := ups M 32 (up1 (up1 (M 32) (3 * v) a) (3 * v + 1) b)) (ups_ups) ?_
              refine ww_aload_n C dX6_variable_92 2 rfl ?_
              refine gt_X6_13 C dX6_variable_93 ?_
              refine ww_iconst C dX6_variable_96 ?_
              refine ww_iload C dX6_variable_97 0 rfl ?_
              refine ww_imul C dX6_variable_99 ?_
              refine ww_iconst C dX6_variable_100 ?_
              refine ww_iadd C dX6_variable_101 ?_
              refine ww_iload_n C dX6_variable_102 5 rfl ?_
              refine as_32 C (3 * v + 2) (by omega) (by omega) dX6_variable_103 ?_
              refine ww_mem (M1 := ups M 32 (up1 (up1 (up1 (M 32) (3 * v) a) (3 * v + 1) b) (3 * v + 2) c)) (ups_ups) ?_
              refine ww_aload_n C dX6_variable_104 2 rfl ?_
              refine gt_X6_16 C dX6_variable_105 ?_
              refine ww_iload C dX6_variable_108 0 rfl ?_
              refine ww_iconst C dX6_variable_110 ?_
              refine as_33 C v rfl (by omega) dX6_variable_111 ?_
              refine ww_mem (M1 := ups (ups M 32 (up1 (up1 (up1 (M 32) (3 * v) a) (3 * v + 1) b) (3 * v + 2) c)) 33 (up1 (M 33) v 0)) rfl ?_
              refine ww_aload_n C dX6_variable_112 2 rfl ?_
              refine gt_X6_19 C dX6_variable_113 ?_
              refine ww_iload C dX6_variable_116 0 rfl ?_
              refine ww_iconst C dX6_variable_118 ?_
              refine as_34 C v rfl (by omega) dX6_variable_119 ?_
              refine ww_mem (M1 := ups (ups (ups M 32 (up1 (up1 (up1 (M 32) (3 * v) a) (3 * v + 1) b) (3 * v + 2) c)) 33 (up1 (M 33) v 0)) 34 (up1 (M 34) v 0)) rfl ?_
              refine ww_aload_n C dX6_variable_120 2 rfl ?_
              refine gt_X6_22 C dX6_variable_121 ?_
              refine ww_iload C dX6_variable_124 0 rfl ?_
              refine ww_iconst C dX6_variable_126 ?_
              refine as_35 C v rfl (by omega) dX6_variable_127 ?_
              refine ww_mem (M1 := ups (ups (ups (ups M 32 (up1 (up1 (up1 (M 32) (3 * v) a) (3 * v + 1) b) (3 * v + 2) c)) 33 (up1 (M 33) v 0)) 34 (up1 (M 34) v 0)) 35 (up1 (M 35) v 0)) rfl ?_
              refine ww_aload_n C dX6_variable_128 2 rfl ?_
              refine ww_dup C dX6_variable_129 rfl ?_
              refine gt_X6_58 C dX6_variable_130 ?_
              refine ww_top (b := ((v : Nat) : Int)) (hv) ?_
              refine ww_iconst C dX6_variable_133 ?_
              refine ww_iadd C dX6_variable_134 ?_
              refine ww_top (b := ((v + 1 : Nat) : Int)) (by omega) ?_
              refine pt_X6_58 C dX6_variable_135 ?_
              refine ww_mem (M1 := ups (ups (ups (ups (ups M 32 (up1 (up1 (up1 (M 32) (3 * v) a) (3 * v + 1) b) (3 * v + 2) c)) 33 (up1 (M 33) v 0)) 34 (up1 (M 34) v 0)) 35 (up1 (M 35) v 0)) 30 (up1 (M 30) 1 ((v + 1 : Nat) : Int))) rfl ?_
              refine ww_aload_n C dX6_variable_138 2 rfl ?_
              refine ww_iconst C dX6_variable_139 ?_
              refine pt_X6_67 C (by decide) dX6_variable_140 ?_
              refine ww_mem (M1 := ups (ups (ups (ups (ups M 32 (up1 (up1 (up1 (M 32) (3 * v) a) (3 * v + 1) b) (3 * v + 2) c)) 33 (up1 (M 33) v 0)) 34 (up1 (M 34) v 0)) 35 (up1 (M 35) v 0)) 30 (up1 (up1 (M 30) 1 ((v + 1 : Nat) : Int)) 9 0)) (ups_ups) ?_
              refine ww_iload C dX6_variable_143 0 rfl ?_
              exact RT _ _ _ _ dX6_variable_145 (by first | exact Or.inr ⟨by omega, rfl, rfl⟩ | exact Or.inl ⟨by omega, rfl, rfl⟩)
            · refine ww_iconst C dX6_variable_62 ?_
              exact RT _ _ _ _ dX6_variable_63 (by first | exact Or.inr ⟨by omega, rfl, rfl⟩ | exact Or.inl ⟨by omega, rfl, rfl⟩)
set_option maxRecDepth 100000 in
set_option maxHeartbeats 4000000 in
theorem ct_X6_act (w : WLD) (M : Mem) (v a x y : Int) (h1 : R32 v) (h2 : R32 a) (h3 : R32 x) (h4 : R32 y) (hn : 0 ≤ M 30 1 ∧ M 30 1 ≤ 4) : CtI w yX6_act cX6_act 5 (some .boolean) rm_X6_act [.ref (wa w 30), .int (iZ v), .int (iZ a), .int (iZ x), .int (iZ y)] M (fun z M1 => (((0 ≤ v ∧ v < M 30 1) ∧ (0 ≤ a ∧ a ≤ 7) ∧ (0 ≤ x ∧ x < M 30 1) ∧ (0 ≤ y ∧ y < M 30 1)) ∧ z = 1 ∧ M1 = ups (ups (ups (ups M 33 (up1 (M 33) v.toNat a)) 34 (up1 (M 34) v.toNat x)) 35 (up1 (M 35) v.toNat y)) 30 (up1 (M 30) 9 0)) ∨ (¬ ((0 ≤ v ∧ v < M 30 1) ∧ (0 ≤ a ∧ a ≤ 7) ∧ (0 ≤ x ∧ x < M 30 1) ∧ (0 ≤ y ∧ y < M 30 1)) ∧ z = 0 ∧ M1 = M)) := by
  refine CtI.ofZ (by decide) (Nat.le_of_ble_eq_true rfl) rfl rfl (fun z M9 h9 => by rcases h9 with h9 | h9; exact Or.inr h9.2.1; exact Or.inl h9.2.1) ?_
  intro k hkL C RT
  show WW w k 0 [(0, .ref (wa w 30)), (1, .int (iZ v)), (2, .int (iZ a)), (3, .int (iZ x)), (4, .int (iZ y))] [] M
  refine ww_aload_n C dX6_act_0 0 rfl ?_
  refine ww_iload_n C dX6_act_1 1 rfl ?_
  refine ww_callV C (As := [.int (iZ v)]) 30 (by decide) (ct_X6_isVariable w M v (by omega) (by omega)) mf_X6_isVariable ml_X6_71 rfl rfl (by decide) rfl rfl (Nat.le_of_ble_eq_true rfl) dX6_act_2 (fun z_2 M_2 hp_2 => ?_)
  rw [hp_2.1, hp_2.2]
  refine ww_ifb_eq C 35 dX6_act_5 (by decide) (fun c_5 => ?_) (fun c_5 => ?_)
  · refine ww_iconst C dX6_act_35 ?_
    exact RT _ _ _ _ dX6_act_36 (by first | exact Or.inr ⟨by omega, rfl, rfl⟩ | exact Or.inl ⟨by omega, rfl, rfl⟩)
  · refine ww_iload_n C dX6_act_8 2 rfl ?_
    refine ww_iconst C dX6_act_9 ?_
    refine ww_bipush C dX6_act_10 (by decide) ?_
    refine ww_callS C (As := [.int (iZ a), .int (iZ 0), .int (iZ 7)]) (ct_X6_in w M a 0 7 (by omega) (by omega) (by omega)) mf_X6_in ml_X6_54 (by decide) rfl rfl (Nat.le_of_ble_eq_true rfl) dX6_act_12 (fun z_12 M_12 hp_12 => ?_)
    rw [hp_12.1, hp_12.2]
    refine ww_ifb_eq C 35 dX6_act_15 (by decide) (fun c_15 => ?_) (fun c_15 => ?_)
    · refine ww_iconst C dX6_act_35 ?_
      exact RT _ _ _ _ dX6_act_36 (by first | exact Or.inr ⟨by omega, rfl, rfl⟩ | exact Or.inl ⟨by omega, rfl, rfl⟩)
    · refine ww_aload_n C dX6_act_18 0 rfl ?_
      refine ww_iload_n C dX6_act_19 3 rfl ?_
      refine ww_callV C (As := [.int (iZ x)]) 30 (by decide) (ct_X6_isVariable w M x (by omega) (by omega)) mf_X6_isVariable ml_X6_71 rfl rfl (by decide) rfl rfl (Nat.le_of_ble_eq_true rfl) dX6_act_20 (fun z_20 M_20 hp_20 => ?_)
      rw [hp_20.1, hp_20.2]
      refine ww_ifb_eq C 35 dX6_act_23 (by decide) (fun c_23 => ?_) (fun c_23 => ?_)
      · refine ww_iconst C dX6_act_35 ?_
        exact RT _ _ _ _ dX6_act_36 (by first | exact Or.inr ⟨by omega, rfl, rfl⟩ | exact Or.inl ⟨by omega, rfl, rfl⟩)
      · refine ww_aload_n C dX6_act_26 0 rfl ?_
        refine ww_iload C dX6_act_27 4 rfl ?_
        refine ww_callV C (As := [.int (iZ y)]) 30 (by decide) (ct_X6_isVariable w M y (by omega) (by omega)) mf_X6_isVariable ml_X6_71 rfl rfl (by decide) rfl rfl (Nat.le_of_ble_eq_true rfl) dX6_act_29 (fun z_29 M_29 hp_29 => ?_)
        rw [hp_29.1, hp_29.2]
        refine ww_ifb_ne C 37 dX6_act_32 (by decide) (fun c_32 => ?_) (fun c_32 => ?_)
        · refine ww_aload_n C dX6_act_37 0 rfl ?_
          refine gt_X6_16 C dX6_act_38 ?_
          refine ww_iload_n C dX6_act_41 1 rfl ?_
          refine ww_iload_n C dX6_act_42 2 rfl ?_
          refine as_33 C v.toNat (by omega) (by omega) dX6_act_43 ?_
          refine ww_aload_n C dX6_act_44 0 rfl ?_
          refine gt_X6_19 C dX6_act_45 ?_
          refine ww_iload_n C dX6_act_48 1 rfl ?_
          refine ww_iload_n C dX6_act_49 3 rfl ?_
          refine as_34 C v.toNat (by omega) (by omega) dX6_act_50 ?_
          refine ww_mem (M1 := ups (ups M 33 (up1 (M 33) v.toNat a)) 34 (up1 (M 34) v.toNat x)) rfl ?_
          refine ww_aload_n C dX6_act_51 0 rfl ?_
          refine gt_X6_22 C dX6_act_52 ?_
          refine ww_iload_n C dX6_act_55 1 rfl ?_
          refine ww_iload C dX6_act_56 4 rfl ?_
          refine as_35 C v.toNat (by omega) (by omega) dX6_act_58 ?_
          refine ww_mem (M1 := ups (ups (ups M 33 (up1 (M 33) v.toNat a)) 34 (up1 (M 34) v.toNat x)) 35 (up1 (M 35) v.toNat y)) rfl ?_
          refine ww_aload_n C dX6_act_59 0 rfl ?_
          refine ww_iconst C dX6_act_60 ?_
          refine pt_X6_67 C (by decide) dX6_act_61 ?_
          refine ww_mem (M1 := ups (ups (ups (ups M 33 (up1 (M 33) v.toNat a)) 34 (up1 (M 34) v.toNat x)) 35 (up1 (M 35) v.toNat y)) 30 (up1 (M 30) 9 0)) rfl ?_
          refine ww_iconst C dX6_act_64 ?_
          exact RT _ _ _ _ dX6_act_65 (by first | exact Or.inr ⟨by omega, rfl, rfl⟩ | exact Or.inl ⟨by omega, rfl, rfl⟩)
        · refine ww_iconst C dX6_act_35 ?_
          exact RT _ _ _ _ dX6_act_36 (by first | exact Or.inr ⟨by omega, rfl, rfl⟩ | exact Or.inl ⟨by omega, rfl, rfl⟩)
set_option maxRecDepth 100000 in
set_option maxHeartbeats 4000000 in
theorem ct_X6_edge (w : WLD) (M : Mem) (v i j l x : Int) (h1 : R32 v) (h2 : R32 i) (h3 : R32 j) (h4 : R32 l) (hn : 0 ≤ M 30 1 ∧ M 30 1 ≤ 4) (hs : SzOk (M 31)) : CtI w yX6_edge cX6_edge 6 (some .boolean) rm_X6_edge [.ref (wa w 30), .int (iZ v), .int (iZ i), .int (iZ j), .int (iZ l), .int (iZ x)] M (fun z M1 => (((0 ≤ v ∧ v < M 30 1) ∧ ((0 ≤ i ∧ i < M 31 0) ∧ (0 ≤ j ∧ j < M 31 1) ∧ (0 ≤ l ∧ l < M 31 2))) ∧ z = 1 ∧ M1 = ups (ups M 36 (up1 (M 36) (512 * v + (64 * i + 8 * j + l)).toNat x)) 30 (up1 (M 30) 9 0)) ∨ (¬ ((0 ≤ v ∧ v < M 30 1) ∧ ((0 ≤ i ∧ i < M 31 0) ∧ (0 ≤ j ∧ j < M 31 1) ∧ (0 ≤ l ∧ l < M 31 2))) ∧ z = 0 ∧ M1 = M)) := by
  refine CtI.ofZ (by decide) (Nat.le_of_ble_eq_true rfl) rfl rfl (fun z M9 h9 => by rcases h9 with h9 | h9; exact Or.inr h9.2.1; exact Or.inl h9.2.1) ?_
  intro k hkL C RT
  show WW w k 0 [(0, .ref (wa w 30)), (1, .int (iZ v)), (2, .int (iZ i)), (3, .int (iZ j)), (4, .int (iZ l)), (5, .int (iZ x))] [] M
  refine ww_aload_n C dX6_edge_0 0 rfl ?_
  refine ww_iload_n C dX6_edge_1 1 rfl ?_
  refine ww_callV C (As := [.int (iZ v)]) 30 (by decide) (ct_X6_isVariable w M v (by omega) (by omega)) mf_X6_isVariable ml_X6_71 rfl rfl (by decide) rfl rfl (Nat.le_of_ble_eq_true rfl) dX6_edge_2 (fun z_2 M_2 hp_2 => ?_)
  rw [hp_2.1, hp_2.2]
  refine ww_ifb_eq C 19 dX6_edge_5 (by decide) (fun c_5 => ?_) (fun c_5 => ?_)
  · refine ww_iconst C dX6_edge_19 ?_
    exact RT _ _ _ _ dX6_edge_20 (by first | exact Or.inr ⟨by omega, rfl, rfl⟩ | exact Or.inl ⟨by omega, rfl, rfl⟩)
  · refine ww_aload_n C dX6_edge_8 0 rfl ?_
    refine ww_iload_n C dX6_edge_9 2 rfl ?_
    refine ww_iload_n C dX6_edge_10 3 rfl ?_
    refine ww_iload C dX6_edge_11 4 rfl ?_
    refine ww_callV C (As := [.int (iZ i), .int (iZ j), .int (iZ l)]) 30 (by decide) (ct_X6_isPoint w M i j l (by omega) (by omega) (by omega) (hs)) mf_X6_isPoint ml_X6_61 rfl rfl (by decide) rfl rfl (Nat.le_of_ble_eq_true rfl) dX6_edge_13 (fun z_13 M_13 hp_13 => ?_)
    rw [hp_13.1, hp_13.2]
    refine ww_ifb_ne C 21 dX6_edge_16 (by decide) (fun c_16 => ?_) (fun c_16 => ?_)
    · refine ww_aload_n C dX6_edge_21 0 rfl ?_
      refine gt_X6_25 C dX6_edge_22 ?_
      refine ww_sipush C dX6_edge_25 (by decide) ?_
      refine ww_iload_n C dX6_edge_28 1 rfl ?_
      refine ww_imul C dX6_edge_29 ?_
      refine ww_bipush C dX6_edge_30 (by decide) ?_
      refine ww_iload_n C dX6_edge_32 2 rfl ?_
      refine ww_imul C dX6_edge_33 ?_
      refine ww_iadd C dX6_edge_34 ?_
      refine ww_bipush C dX6_edge_35 (by decide) ?_
      refine ww_iload_n C dX6_edge_37 3 rfl ?_
      refine ww_imul C dX6_edge_38 ?_
      refine ww_iadd C dX6_edge_39 ?_
      refine ww_iload C dX6_edge_40 4 rfl ?_
      refine ww_iadd C dX6_edge_42 ?_
      refine ww_iload C dX6_edge_43 5 rfl ?_
      refine as_36 C ((512 * v + (64 * i + 8 * j + l)).toNat) (by omega) (by omega) dX6_edge_45 ?_
      refine ww_aload_n C dX6_edge_46 0 rfl ?_
      refine ww_iconst C dX6_edge_47 ?_
      refine pt_X6_67 C (by decide) dX6_edge_48 ?_
      refine ww_mem (M1 := ups (ups M 36 (up1 (M 36) ((512 * v + (64 * i + 8 * j + l)).toNat) x)) 30 (up1 (M 30) 9 0)) rfl ?_
      refine ww_iconst C dX6_edge_51 ?_
      exact RT _ _ _ _ dX6_edge_52 (by first | exact Or.inr ⟨by omega, rfl, rfl⟩ | exact Or.inl ⟨by omega, rfl, rfl⟩)
    · refine ww_iconst C dX6_edge_19 ?_
      exact RT _ _ _ _ dX6_edge_20 (by first | exact Or.inr ⟨by omega, rfl, rfl⟩ | exact Or.inl ⟨by omega, rfl, rfl⟩)
set_option maxRecDepth 100000 in
set_option maxHeartbeats 4000000 in
theorem ct_X6_clear (w : WLD) (M : Mem)  : CtV w yX6_clear cX6_clear 1 rm_X6_clear [.ref (wa w 30)] M (fun M1 => M1 = ups (ups M 30 (up1 (up1 (M 30) 1 0) 9 0)) 36 (fil 2048 0 (M 36))) := by
  refine CtV.of (by decide) (Nat.le_of_ble_eq_true rfl) rfl rfl ?_
  intro k hkL C RT
  show WW w k 0 [(0, .ref (wa w 30))] [] M
  refine ww_aload_n C dX6_clear_0 0 rfl ?_
  refine ww_iconst C dX6_clear_1 ?_
  refine pt_X6_58 C dX6_clear_2 ?_
  refine ww_aload_n C dX6_clear_5 0 rfl ?_
  refine ww_callVV C (As := []) 30 (by decide) (ct_X6_noEdges w (ups M 30 (up1 (M 30) 1 0)) ) mf_X6_noEdges ml_X6_64 rfl rfl (by decide) rfl rfl (Nat.le_of_ble_eq_true rfl) dX6_clear_6 (fun M_6 hp_6 => ?_)
  rw [hp_6]
  refine ww_mem (M1 := ups (ups M 30 (up1 (M 30) 1 0)) 36 (fil 2048 0 ((M 36)))) rfl ?_
  refine ww_aload_n C dX6_clear_9 0 rfl ?_
  refine ww_iconst C dX6_clear_10 ?_
  refine pt_X6_67 C (by decide) dX6_clear_11 ?_
  refine ww_mem (M1 := ups (ups M 30 (up1 (up1 (M 30) 1 0) 9 0)) 36 (fil 2048 0 ((M 36)))) (((ups_comm (by decide)).trans (congrArg (fun X9 => ups X9 36 (fil 2048 0 ((M 36)))) ups_ups))) ?_
  exact RT _ _ _ dX6_clear_14 (rfl)
set_option maxRecDepth 100000 in
set_option maxHeartbeats 4000000 in
theorem ct_X6_lay (w : WLD) (M : Mem) (q a b c : Int) (h0 : R32 q) (h1 : R32 a) (h2 : R32 b) (h3 : R32 c) : CtI w yX6_lay cX6_lay 6 (some .boolean) rm_X6_lay [.ref (wa w 30), .int (iZ q), .int (iZ a), .int (iZ b), .int (iZ c)] M (fun z M1 => (((0 ≤ q ∧ q ≤ 2) ∧ (-3 ≤ a ∧ a ≤ 3) ∧ (-3 ≤ b ∧ b ≤ 3) ∧ (-3 ≤ c ∧ c ≤ 3) ∧ ¬ (q = 1 ∧ a = 0 ∧ b = 0 ∧ c = 0)) ∧ z = 1 ∧ M1 = ups (ups M 37 (up1 (up1 (up1 (M 37) (3 * q).toNat a) (3 * q + 1).toNat b) (3 * q + 2).toNat c)) 30 (up1 (M 30) 9 0)) ∨ (¬ ((0 ≤ q ∧ q ≤ 2) ∧ (-3 ≤ a ∧ a ≤ 3) ∧ (-3 ≤ b ∧ b ≤ 3) ∧ (-3 ≤ c ∧ c ≤ 3) ∧ ¬ (q = 1 ∧ a = 0 ∧ b = 0 ∧ c = 0)) ∧ z = 0 ∧ M1 = M)) := by
  refine CtI.ofZ (by decide) (Nat.le_of_ble_eq_true rfl) rfl rfl (fun z M9 h9 => by rcases h9 with h9 | h9; exact Or.inr h9.2.1; exact Or.inl h9.2.1) ?_
  intro k hkL C RT
  show WW w k 0 [(0, .ref (wa w 30)), (1, .int (iZ q)), (2, .int (iZ a)), (3, .int (iZ b)), (4, .int (iZ c))] [] M
  have J_18 : ∀ (z : Int) (hz : (z = 1 ∧ a = 0 ∧ b = 0 ∧ c = 0) ∨ (z = 0 ∧ ¬ (a = 0 ∧ b = 0 ∧ c = 0))), WW w k 18 [(0, .ref (wa w 30)), (1, .int (iZ q)), (2, .int (iZ a)), (3, .int (iZ b)), (4, .int (iZ c))] [.int (iZ z)] M := by
    intro z hz
    refine ww_istore C dX6_lay_18 (lv' := [(5, .int (iZ z)), (0, .ref (wa w 30)), (1, .int (iZ q)), (2, .int (iZ a)), (3, .int (iZ b)), (4, .int (iZ c))]) (by rw [hkL]; decide) rfl ?_
    refine ww_iload_n C dX6_lay_20 2 rfl ?_
    refine ww_iconst C dX6_lay_21 ?_
    refine ww_iconst C dX6_lay_22 ?_
    refine ww_callS C (As := [.int (iZ q), .int (iZ 0), .int (iZ 2)]) (ct_X6_in w M q 0 2 (by omega) (by omega) (by omega)) mf_X6_in ml_X6_54 (by decide) rfl rfl (Nat.le_of_ble_eq_true rfl) dX6_lay_23 (fun z_23 M_23 hp_23 => ?_)
    rw [hp_23.1, hp_23.2]
    refine ww_ifb_eq C 70 dX6_lay_26 (by decide) (fun c_26 => ?_) (fun c_26 => ?_)
    · refine ww_iconst C dX6_lay_70 ?_
      exact RT _ _ _ _ dX6_lay_71 (by first | exact Or.inr ⟨by omega, rfl, rfl⟩ | exact Or.inl ⟨by omega, rfl, rfl⟩)
    · refine ww_iload_n C dX6_lay_29 3 rfl ?_
      refine ww_bipush C dX6_lay_30 (by decide) ?_
      refine ww_iconst C dX6_lay_32 ?_
      refine ww_callS C (As := [.int (iZ a), .int (iZ (-3)), .int (iZ 3)]) (ct_X6_in w M a (-3) 3 (by omega) (by omega) (by omega)) mf_X6_in ml_X6_54 (by decide) rfl rfl (Nat.le_of_ble_eq_true rfl) dX6_lay_33 (fun z_33 M_33 hp_33 => ?_)
      rw [hp_33.1, hp_33.2]
      refine ww_ifb_eq C 70 dX6_lay_36 (by decide) (fun c_36 => ?_) (fun c_36 => ?_)
      · refine ww_iconst C dX6_lay_70 ?_
        exact RT _ _ _ _ dX6_lay_71 (by first | exact Or.inr ⟨by omega, rfl, rfl⟩ | exact Or.inl ⟨by omega, rfl, rfl⟩)
      · refine ww_iload_n C dX6_lay_39 4 rfl ?_
        refine ww_bipush C dX6_lay_40 (by decide) ?_
        refine ww_iconst C dX6_lay_42 ?_
        refine ww_callS C (As := [.int (iZ b), .int (iZ (-3)), .int (iZ 3)]) (ct_X6_in w M b (-3) 3 (by omega) (by omega) (by omega)) mf_X6_in ml_X6_54 (by decide) rfl rfl (Nat.le_of_ble_eq_true rfl) dX6_lay_43 (fun z_43 M_43 hp_43 => ?_)
        rw [hp_43.1, hp_43.2]
        refine ww_ifb_eq C 70 dX6_lay_46 (by decide) (fun c_46 => ?_) (fun c_46 => ?_)
        · refine ww_iconst C dX6_lay_70 ?_
          exact RT _ _ _ _ dX6_lay_71 (by first | exact Or.inr ⟨by omega, rfl, rfl⟩ | exact Or.inl ⟨by omega, rfl, rfl⟩)
        · refine ww_iload C dX6_lay_49 5 rfl ?_
          refine ww_bipush C dX6_lay_51 (by decide) ?_
          refine ww_iconst C dX6_lay_53 ?_
          refine ww_callS C (As := [.int (iZ c), .int (iZ (-3)), .int (iZ 3)]) (ct_X6_in w M c (-3) 3 (by omega) (by omega) (by omega)) mf_X6_in ml_X6_54 (by decide) rfl rfl (Nat.le_of_ble_eq_true rfl) dX6_lay_54 (fun z_54 M_54 hp_54 => ?_)
          rw [hp_54.1, hp_54.2]
          refine ww_ifb_eq C 70 dX6_lay_57 (by decide) (fun c_57 => ?_) (fun c_57 => ?_)
          · refine ww_iconst C dX6_lay_70 ?_
            exact RT _ _ _ _ dX6_lay_71 (by first | exact Or.inr ⟨by omega, rfl, rfl⟩ | exact Or.inl ⟨by omega, rfl, rfl⟩)
          · refine ww_iload_n C dX6_lay_60 2 rfl ?_
            refine ww_iconst C dX6_lay_61 ?_
            refine ww_icmp_ne C 72 dX6_lay_62 (by decide) (by omega) (by omega) (fun c_62 => ?_) (fun c_62 => ?_)
            · refine ww_aload_n C dX6_lay_72 1 rfl ?_
              refine gt_X6_28 C dX6_lay_73 ?_
              refine ww_iconst C dX6_lay_76 ?_
              refine ww_iload_n C dX6_lay_77 2 rfl ?_
              refine ww_imul C dX6_lay_78 ?_
              refine ww_iload_n C dX6_lay_79 3 rfl ?_
              refine as_37 C ((3 * q).toNat) (by omega) (by omega) dX6_lay_80 ?_
              refine ww_aload_n C dX6_lay_81 1 rfl ?_
              refine gt_X6_28 C dX6_lay_82 ?_
              refine ww_iconst C dX6_lay_85 ?_
              refine ww_iload_n C dX6_lay_86 2 rfl ?_
              refine ww_imul C dX6_lay_87 ?_
              refine ww_iconst C dX6_lay_88 ?_
              refine ww_iadd C dX6_lay_89 ?_
              refine ww_iload_n C dX6_lay_90 4 rfl ?_
              refine as_37 C ((3 * q + 1).toNat) (by omega) (by omega) dX6_lay_91 ?_
              refine ww_mem (M1 := ups M 37 (up1 (up1 (M 37) ((3 * q).toNat) a) ((3 * q + 1).toNat) b)) (ups_ups) ?_
              refine ww_aload_n C dX6_lay_92 1 rfl ?_
              refine gt_X6_28 C dX6_lay_93 ?_
              refine ww_iconst C dX6_lay_96 ?_
              refine ww_iload_n C dX6_lay_97 2 rfl ?_
              refine ww_imul C dX6_lay_98 ?_
              refine ww_iconst C dX6_lay_99 ?_
              refine ww_iadd C dX6_lay_100 ?_
              refine ww_iload C dX6_lay_101 5 rfl ?_
              refine as_37 C ((3 * q + 2).toNat) (by omega) (by omega) dX6_lay_103 ?_
              refine ww_mem (M1 := ups M 37 (up1 (up1 (up1 (M 37) ((3 * q).toNat) a) ((3 * q + 1).toNat) b) ((3 * q + 2).toNat) c)) (ups_ups) ?_
              refine ww_aload_n C dX6_lay_104 1 rfl ?_
              refine ww_iconst C dX6_lay_105 ?_
              refine pt_X6_67 C (by decide) dX6_lay_106 ?_
              refine ww_mem (M1 := ups (ups M 37 (up1 (up1 (up1 (M 37) ((3 * q).toNat) a) ((3 * q + 1).toNat) b) ((3 * q + 2).toNat) c)) 30 (up1 (M 30) 9 0)) rfl ?_
              refine ww_iconst C dX6_lay_109 ?_
              exact RT _ _ _ _ dX6_lay_110 (by first | exact Or.inr ⟨by omega, rfl, rfl⟩ | exact Or.inl ⟨by omega, rfl, rfl⟩)
            · refine ww_iload C dX6_lay_65 0 rfl ?_
              refine ww_if_eq C 72 dX6_lay_67 (by decide) (by omega) (fun c_67 => ?_) (fun c_67 => ?_)
              · refine ww_aload_n C dX6_lay_72 1 rfl ?_
                refine gt_X6_28 C dX6_lay_73 ?_
                refine ww_iconst C dX6_lay_76 ?_
                refine ww_iload_n C dX6_lay_77 2 rfl ?_
                refine ww_imul C dX6_lay_78 ?_
                refine ww_iload_n C dX6_lay_79 3 rfl ?_
                refine as_37 C ((3 * q).toNat) (by omega) (by omega) dX6_lay_80 ?_
                refine ww_aload_n C dX6_lay_81 1 rfl ?_
                refine gt_X6_28 C dX6_lay_82 ?_
                refine ww_iconst C dX6_lay_85 ?_
                refine ww_iload_n C dX6_lay_86 2 rfl ?_
                refine ww_imul C dX6_lay_87 ?_
                refine ww_iconst C dX6_lay_88 ?_
                refine ww_iadd C dX6_lay_89 ?_
                refine ww_iload_n C dX6_lay_90 4 rfl ?_
                refine as_37 C ((3 * q + 1).toNat) (by omega) (by omega) dX6_lay_91 ?_
                refine ww_mem (M1 := ups M 37 (up1 (up1 (M 37) ((3 * q).toNat) a) ((3 * q + 1).toNat) b)) (ups_ups) ?_
                refine ww_aload_n C dX6_lay_92 1 rfl ?_
                refine gt_X6_28 C dX6_lay_93 ?_
                refine ww_iconst C dX6_lay_96 ?_
                refine ww_iload_n C dX6_lay_97 2 rfl ?_
                refine ww_imul C dX6_lay_98 ?_
                refine ww_iconst C dX6_lay_99 ?_
                refine ww_iadd C dX6_lay_100 ?_
                refine ww_iload C dX6_lay_101 5 rfl ?_
                refine as_37 C ((3 * q + 2).toNat) (by omega) (by omega) dX6_lay_103 ?_
                refine ww_mem (M1 := ups M 37 (up1 (up1 (up1 (M 37) ((3 * q).toNat) a) ((3 * q + 1).toNat) b) ((3 * q + 2).toNat) c)) (ups_ups) ?_
                refine ww_aload_n C dX6_lay_104 1 rfl ?_
                refine ww_iconst C dX6_lay_105 ?_
                refine pt_X6_67 C (by decide) dX6_lay_106 ?_
                refine ww_mem (M1 := ups (ups M 37 (up1 (up1 (up1 (M 37) ((3 * q).toNat) a) ((3 * q + 1).toNat) b) ((3 * q + 2).toNat) c)) 30 (up1 (M 30) 9 0)) rfl ?_
                refine ww_iconst C dX6_lay_109 ?_
                exact RT _ _ _ _ dX6_lay_110 (by first | exact Or.inr ⟨by omega, rfl, rfl⟩ | exact Or.inl ⟨by omega, rfl, rfl⟩)
              · refine ww_iconst C dX6_lay_70 ?_
                exact RT _ _ _ _ dX6_lay_71 (by first | exact Or.inr ⟨by omega, rfl, rfl⟩ | exact Or.inl ⟨by omega, rfl, rfl⟩)
  refine ww_iload_n C dX6_lay_0 2 rfl ?_
  refine ww_if_ne C 17 dX6_lay_1 (by decide) (by omega) (fun c_1 => ?_) (fun c_1 => ?_)
  · refine ww_iconst C dX6_lay_17 ?_
    exact J_18 0 (by omega)
  · refine ww_iload_n C dX6_lay_4 3 rfl ?_
    refine ww_if_ne C 17 dX6_lay_5 (by decide) (by omega) (fun c_5 => ?_) (fun c_5 => ?_)
    · refine ww_iconst C dX6_lay_17 ?_
      exact J_18 0 (by omega)
    · refine ww_iload C dX6_lay_8 4 rfl ?_
      refine ww_if_ne C 17 dX6_lay_10 (by decide) (by omega) (fun c_10 => ?_) (fun c_10 => ?_)
      · refine ww_iconst C dX6_lay_17 ?_
        exact J_18 0 (by omega)
      · refine ww_iconst C dX6_lay_13 ?_
        refine ww_goto C 18 dX6_lay_14 (by decide) ?_
        exact J_18 1 (by omega)
set_option maxRecDepth 100000 in
set_option maxHeartbeats 4000000 in
theorem ct_X6_fold (w : WLD) (M : Mem) (f : Int) (h1 : R32 f) : CtI w yX6_fold cX6_fold 2 (some .boolean) rm_X6_fold [.ref (wa w 30), .int (iZ f)] M (fun z M1 => ((1 ≤ f ∧ f ≤ 8) ∧ z = 1 ∧ M1 = ups M 30 (up1 (up1 (M 30) 8 f) 9 0)) ∨ (¬ (1 ≤ f ∧ f ≤ 8) ∧ z = 0 ∧ M1 = M)) := by
  refine CtI.ofZ (by decide) (Nat.le_of_ble_eq_true rfl) rfl rfl (fun z M9 h9 => by rcases h9 with h9 | h9; exact Or.inr h9.2.1; exact Or.inl h9.2.1) ?_
  intro k hkL C RT
  show WW w k 0 [(0, .ref (wa w 30)), (1, .int (iZ f))] [] M
  refine ww_iload_n C dX6_fold_0 1 rfl ?_
  refine ww_iconst C dX6_fold_1 ?_
  refine ww_bipush C dX6_fold_2 (by decide) ?_
  refine ww_callS C (As := [.int (iZ f), .int (iZ 1), .int (iZ 8)]) (ct_X6_in w M f 1 8 (by omega) (by omega) (by omega)) mf_X6_in ml_X6_54 (by decide) rfl rfl (Nat.le_of_ble_eq_true rfl) dX6_fold_4 (fun z_4 M_4 hp_4 => ?_)
  rw [hp_4.1, hp_4.2]
  refine ww_ifb_ne C 12 dX6_fold_7 (by decide) (fun c_7 => ?_) (fun c_7 => ?_)
  · refine ww_aload_n C dX6_fold_12 0 rfl ?_
    refine ww_iload_n C dX6_fold_13 1 rfl ?_
    refine pt_X6_31 C dX6_fold_14 ?_
    refine ww_aload_n C dX6_fold_17 0 rfl ?_
    refine ww_iconst C dX6_fold_18 ?_
    refine pt_X6_67 C (by decide) dX6_fold_19 ?_
    refine ww_mem (M1 := ups M 30 (up1 (up1 (M 30) 8 f) 9 0)) (ups_ups) ?_
    refine ww_iconst C dX6_fold_22 ?_
    exact RT _ _ _ _ dX6_fold_23 (by first | exact Or.inr ⟨by omega, rfl, rfl⟩ | exact Or.inl ⟨by omega, rfl, rfl⟩)
  · refine ww_iconst C dX6_fold_10 ?_
    exact RT _ _ _ _ dX6_fold_11 (by first | exact Or.inr ⟨by omega, rfl, rfl⟩ | exact Or.inl ⟨by omega, rfl, rfl⟩)
set_option maxRecDepth 100000 in
set_option maxHeartbeats 4000000 in
theorem ct_X6_at (w : WLD) (M : Mem) (q p : Nat) (hq : q < 3) (hp : p < 512) (hnu : NuOk (M 37)) (hs : SzOk (M 31)) : CtI w yX6_at cX6_at 6 (some .int) rm_X6_at [.ref (wa w 30), .int (iZ ((q : Nat) : Int)), .int (iZ ((p : Nat) : Int))] M (fun z M1 => z = atZ (M 37) (M 31) q p ∧ M1 = M) := by
  refine CtI.of (by decide) (Nat.le_of_ble_eq_true rfl) rfl rfl ?_
  intro k hkL C RT
  have n0 := hnu (3 * q) (by omega)
  have n1 := hnu (3 * q + 1) (by omega)
  have n2 := hnu (3 * q + 2) (by omega)
  have k0 := mulsg (a := M 37 (3 * q)) (b := M 31 0 - 1) (by omega)
  have k1 := mulsg (a := M 37 (3 * q + 1)) (b := M 31 1 - 1) (by omega)
  have k2 := mulsg (a := M 37 (3 * q + 2)) (b := M 31 2 - 1) (by omega)
  show WW w k 0 [(0, .ref (wa w 30)), (1, .int (iZ ((q : Nat) : Int))), (2, .int (iZ ((p : Nat) : Int)))] [] M
  refine ww_aload_n C dX6_at_0 0 rfl ?_
  refine gt_X6_28 C dX6_at_1 ?_
  refine ww_iconst C dX6_at_4 ?_
  refine ww_iload_n C dX6_at_5 1 rfl ?_
  refine ww_imul C dX6_at_6 ?_
  refine al_37 C (3 * q) (z := M 37 (3 * q)) (by omega) (by omega) rfl dX6_at_7 ?_
  refine ww_iload_n C dX6_at_8 2 rfl ?_
  refine ww_bipush C dX6_at_9 (by decide) ?_
  refine ww_idivN C dX6_at_11 (by omega) (by omega) ?_
  refine ww_top (b := ((p / 64 : Nat) : Int)) (by omega) ?_
  refine ww_imul C dX6_at_12 ?_
  refine ww_aload_n C dX6_at_13 0 rfl ?_
  refine gt_X6_28 C dX6_at_14 ?_
  refine ww_iconst C dX6_at_17 ?_
  refine ww_iload_n C dX6_at_18 1 rfl ?_
  refine ww_imul C dX6_at_19 ?_
  refine ww_iconst C dX6_at_20 ?_
  refine ww_iadd C dX6_at_21 ?_
  refine al_37 C (3 * q + 1) (z := M 37 (3 * q + 1)) (by omega) (by omega) rfl dX6_at_22 ?_
  refine ww_iload_n C dX6_at_23 2 rfl ?_
  refine ww_bipush C dX6_at_24 (by decide) ?_
  refine ww_idivN C dX6_at_26 (by omega) (by omega) ?_
  refine ww_top (b := ((p / 8 : Nat) : Int)) (by omega) ?_
  refine ww_bipush C dX6_at_27 (by decide) ?_
  refine ww_iremN C dX6_at_29 (by omega) (by omega) ?_
  refine ww_top (b := ((p / 8 % 8 : Nat) : Int)) (by omega) ?_
  refine ww_imul C dX6_at_30 ?_
  refine ww_iadd C dX6_at_31 ?_
  refine ww_aload_n C dX6_at_32 0 rfl ?_
  refine gt_X6_28 C dX6_at_33 ?_
  refine ww_iconst C dX6_at_36 ?_
  refine ww_iload_n C dX6_at_37 1 rfl ?_
  refine ww_imul C dX6_at_38 ?_
  refine ww_iconst C dX6_at_39 ?_
  refine ww_iadd C dX6_at_40 ?_
  refine al_37 C (3 * q + 2) (z := M 37 (3 * q + 2)) (by omega) (by omega) rfl dX6_at_41 ?_
  refine ww_iload_n C dX6_at_42 2 rfl ?_
  refine ww_bipush C dX6_at_43 (by decide) ?_
  refine ww_iremN C dX6_at_45 (by omega) (by omega) ?_
  refine ww_top (b := ((p % 8 : Nat) : Int)) (by omega) ?_
  refine ww_imul C dX6_at_46 ?_
  refine ww_iadd C dX6_at_47 ?_
  refine ww_istore_n C dX6_at_48 (lv' := [(3, .int (iZ ((((M 37 (3 * q)) * ((p / 64 : Nat) : Int)) + ((M 37 (3 * q + 1)) * ((p / 8 % 8 : Nat) : Int))) + ((M 37 (3 * q + 2)) * ((p % 8 : Nat) : Int))))), (0, .ref (wa w 30)), (1, .int (iZ ((q : Nat) : Int))), (2, .int (iZ ((p : Nat) : Int)))]) (by rw [hkL]; decide) rfl ?_
  refine ww_iconst C dX6_at_49 ?_
  refine ww_istore C dX6_at_50 (lv' := [(4, .int (iZ 0)), (3, .int (iZ ((((M 37 (3 * q)) * ((p / 64 : Nat) : Int)) + ((M 37 (3 * q + 1)) * ((p / 8 % 8 : Nat) : Int))) + ((M 37 (3 * q + 2)) * ((p % 8 : Nat) : Int))))), (0, .ref (wa w 30)), (1, .int (iZ ((q : Nat) : Int))), (2, .int (iZ ((p : Nat) : Int)))]) (by rw [hkL]; decide) rfl ?_
  refine ww_iload C dX6_at_52 0 rfl ?_
  refine ww_iconst C dX6_at_54 ?_
  refine ww_icmp_ge C 101 dX6_at_55 (by decide) (by omega) (by omega) (fun c_55 => ?_) (fun c_55 => ?_)
  · exact absurd c_55 (by decide)
  · refine ww_aload_n C dX6_at_58 2 rfl ?_
    refine gt_X6_28 C dX6_at_59 ?_
    refine ww_iconst C dX6_at_62 ?_
    refine ww_iload_n C dX6_at_63 3 rfl ?_
    refine ww_imul C dX6_at_64 ?_
    refine ww_iload C dX6_at_65 0 rfl ?_
    refine ww_iadd C dX6_at_67 ?_
    refine al_37 C (3 * q) (z := M 37 (3 * q)) (by omega) (by omega) rfl dX6_at_68 ?_
    refine ww_istore C dX6_at_69 (lv' := [(5, .int (iZ (M 37 (3 * q)))), (4, .int (iZ 0)), (3, .int (iZ ((((M 37 (3 * q)) * ((p / 64 : Nat) : Int)) + ((M 37 (3 * q + 1)) * ((p / 8 % 8 : Nat) : Int))) + ((M 37 (3 * q + 2)) * ((p % 8 : Nat) : Int))))), (0, .ref (wa w 30)), (1, .int (iZ ((q : Nat) : Int))), (2, .int (iZ ((p : Nat) : Int)))]) (by rw [hkL]; decide) rfl ?_
    refine ww_iload_n C dX6_at_71 2 rfl ?_
    refine ww_iload C dX6_at_72 0 rfl ?_
    refine ww_if_ge C 92 dX6_at_74 (by decide) (by omega) (fun c_74 => ?_) (fun c_74 => ?_)
    · refine ww_iconst C dX6_at_92 ?_
      refine ww_isub C dX6_at_93 ?_
      refine ww_istore_n C dX6_at_94 (lv' := [(3, .int (iZ (((((M 37 (3 * q)) * ((p / 64 : Nat) : Int)) + ((M 37 (3 * q + 1)) * ((p / 8 % 8 : Nat) : Int))) + ((M 37 (3 * q + 2)) * ((p % 8 : Nat) : Int))) - 0))), (5, .int (iZ (M 37 (3 * q)))), (4, .int (iZ 0)), (0, .ref (wa w 30)), (1, .int (iZ ((q : Nat) : Int))), (2, .int (iZ ((p : Nat) : Int)))]) (by rw [hkL]; decide) rfl ?_
      refine ww_iinc2 C dX6_at_95 2 rfl (b := 1) (by omega) (lv' := [(4, .int (iZ 1)), (3, .int (iZ (((((M 37 (3 * q)) * ((p / 64 : Nat) : Int)) + ((M 37 (3 * q + 1)) * ((p / 8 % 8 : Nat) : Int))) + ((M 37 (3 * q + 2)) * ((p % 8 : Nat) : Int))) - 0))), (5, .int (iZ (M 37 (3 * q)))), (0, .ref (wa w 30)), (1, .int (iZ ((q : Nat) : Int))), (2, .int (iZ ((p : Nat) : Int)))]) (by rw [hkL]; decide) rfl ?_
      refine ww_goto C 52 dX6_at_98 (by decide) ?_
      refine ww_iload C dX6_at_52 0 rfl ?_
      refine ww_iconst C dX6_at_54 ?_
      refine ww_icmp_ge C 101 dX6_at_55 (by decide) (by omega) (by omega) (fun c_55 => ?_) (fun c_55 => ?_)
      · exact absurd c_55 (by decide)
      · refine ww_aload_n C dX6_at_58 3 rfl ?_
        refine gt_X6_28 C dX6_at_59 ?_
        refine ww_iconst C dX6_at_62 ?_
        refine ww_iload_n C dX6_at_63 4 rfl ?_
        refine ww_imul C dX6_at_64 ?_
        refine ww_iload C dX6_at_65 0 rfl ?_
        refine ww_iadd C dX6_at_67 ?_
        refine al_37 C (3 * q + 1) (z := M 37 (3 * q + 1)) (by omega) (by omega) rfl dX6_at_68 ?_
        refine ww_istore C dX6_at_69 (lv' := [(5, .int (iZ (M 37 (3 * q + 1)))), (4, .int (iZ 1)), (3, .int (iZ (((((M 37 (3 * q)) * ((p / 64 : Nat) : Int)) + ((M 37 (3 * q + 1)) * ((p / 8 % 8 : Nat) : Int))) + ((M 37 (3 * q + 2)) * ((p % 8 : Nat) : Int))) - 0))), (0, .ref (wa w 30)), (1, .int (iZ ((q : Nat) : Int))), (2, .int (iZ ((p : Nat) : Int)))]) (by rw [hkL]; decide) rfl ?_
        refine ww_iload_n C dX6_at_71 2 rfl ?_
        refine ww_iload C dX6_at_72 0 rfl ?_
        refine ww_if_ge C 92 dX6_at_74 (by decide) (by omega) (fun c_74 => ?_) (fun c_74 => ?_)
        · refine ww_iconst C dX6_at_92 ?_
          refine ww_isub C dX6_at_93 ?_
          refine ww_istore_n C dX6_at_94 (lv' := [(3, .int (iZ ((((((M 37 (3 * q)) * ((p / 64 : Nat) : Int)) + ((M 37 (3 * q + 1)) * ((p / 8 % 8 : Nat) : Int))) + ((M 37 (3 * q + 2)) * ((p % 8 : Nat) : Int))) - 0) - 0))), (5, .int (iZ (M 37 (3 * q + 1)))), (4, .int (iZ 1)), (0, .ref (wa w 30)), (1, .int (iZ ((q : Nat) : Int))), (2, .int (iZ ((p : Nat) : Int)))]) (by rw [hkL]; decide) rfl ?_
          refine ww_iinc2 C dX6_at_95 2 rfl (b := 2) (by omega) (lv' := [(4, .int (iZ 2)), (3, .int (iZ ((((((M 37 (3 * q)) * ((p / 64 : Nat) : Int)) + ((M 37 (3 * q + 1)) * ((p / 8 % 8 : Nat) : Int))) + ((M 37 (3 * q + 2)) * ((p % 8 : Nat) : Int))) - 0) - 0))), (5, .int (iZ (M 37 (3 * q + 1)))), (0, .ref (wa w 30)), (1, .int (iZ ((q : Nat) : Int))), (2, .int (iZ ((p : Nat) : Int)))]) (by rw [hkL]; decide) rfl ?_
          refine ww_goto C 52 dX6_at_98 (by decide) ?_
          refine ww_iload C dX6_at_52 0 rfl ?_
          refine ww_iconst C dX6_at_54 ?_
          refine ww_icmp_ge C 101 dX6_at_55 (by decide) (by omega) (by omega) (fun c_55 => ?_) (fun c_55 => ?_)
          · exact absurd c_55 (by decide)
          · refine ww_aload_n C dX6_at_58 3 rfl ?_
            refine gt_X6_28 C dX6_at_59 ?_
            refine ww_iconst C dX6_at_62 ?_
            refine ww_iload_n C dX6_at_63 4 rfl ?_
            refine ww_imul C dX6_at_64 ?_
            refine ww_iload C dX6_at_65 0 rfl ?_
            refine ww_iadd C dX6_at_67 ?_
            refine al_37 C (3 * q + 2) (z := M 37 (3 * q + 2)) (by omega) (by omega) rfl dX6_at_68 ?_
            refine ww_istore C dX6_at_69 (lv' := [(5, .int (iZ (M 37 (3 * q + 2)))), (4, .int (iZ 2)), (3, .int (iZ ((((((M 37 (3 * q)) * ((p / 64 : Nat) : Int)) + ((M 37 (3 * q + 1)) * ((p / 8 % 8 : Nat) : Int))) + ((M 37 (3 * q + 2)) * ((p % 8 : Nat) : Int))) - 0) - 0))), (0, .ref (wa w 30)), (1, .int (iZ ((q : Nat) : Int))), (2, .int (iZ ((p : Nat) : Int)))]) (by rw [hkL]; decide) rfl ?_
            refine ww_iload_n C dX6_at_71 2 rfl ?_
            refine ww_iload C dX6_at_72 0 rfl ?_
            refine ww_if_ge C 92 dX6_at_74 (by decide) (by omega) (fun c_74 => ?_) (fun c_74 => ?_)
            · refine ww_iconst C dX6_at_92 ?_
              refine ww_isub C dX6_at_93 ?_
              refine ww_istore_n C dX6_at_94 (lv' := [(3, .int (iZ (((((((M 37 (3 * q)) * ((p / 64 : Nat) : Int)) + ((M 37 (3 * q + 1)) * ((p / 8 % 8 : Nat) : Int))) + ((M 37 (3 * q + 2)) * ((p % 8 : Nat) : Int))) - 0) - 0) - 0))), (5, .int (iZ (M 37 (3 * q + 2)))), (4, .int (iZ 2)), (0, .ref (wa w 30)), (1, .int (iZ ((q : Nat) : Int))), (2, .int (iZ ((p : Nat) : Int)))]) (by rw [hkL]; decide) rfl ?_
              refine ww_iinc2 C dX6_at_95 2 rfl (b := 3) (by omega) (lv' := [(4, .int (iZ 3)), (3, .int (iZ (((((((M 37 (3 * q)) * ((p / 64 : Nat) : Int)) + ((M 37 (3 * q + 1)) * ((p / 8 % 8 : Nat) : Int))) + ((M 37 (3 * q + 2)) * ((p % 8 : Nat) : Int))) - 0) - 0) - 0))), (5, .int (iZ (M 37 (3 * q + 2)))), (0, .ref (wa w 30)), (1, .int (iZ ((q : Nat) : Int))), (2, .int (iZ ((p : Nat) : Int)))]) (by rw [hkL]; decide) rfl ?_
              refine ww_goto C 52 dX6_at_98 (by decide) ?_
              refine ww_iload C dX6_at_52 0 rfl ?_
              refine ww_iconst C dX6_at_54 ?_
              refine ww_icmp_ge C 101 dX6_at_55 (by decide) (by omega) (by omega) (fun c_55 => ?_) (fun c_55 => ?_)
              · refine ww_iload_n C dX6_at_101 1 rfl ?_
                exact RT _ _ _ _ dX6_at_102 (⟨by unfold atZ dotP dotZ lesZ; omega, rfl⟩)
              · exact absurd c_55 (by decide)
            · refine ww_iload C dX6_at_77 0 rfl ?_
              refine ww_aload_n C dX6_at_79 3 rfl ?_
              refine gt_X6_7 C dX6_at_80 ?_
              refine ww_iload C dX6_at_83 1 rfl ?_
              refine al_31 C 2 (z := M 31 2) rfl (by omega) rfl dX6_at_85 ?_
              refine ww_iconst C dX6_at_86 ?_
              refine ww_isub C dX6_at_87 ?_
              refine ww_imul C dX6_at_88 ?_
              refine ww_goto C 93 dX6_at_89 (by decide) ?_
              refine ww_isub C dX6_at_93 ?_
              refine ww_istore_n C dX6_at_94 (lv' := [(3, .int (iZ (((((((M 37 (3 * q)) * ((p / 64 : Nat) : Int)) + ((M 37 (3 * q + 1)) * ((p / 8 % 8 : Nat) : Int))) + ((M 37 (3 * q + 2)) * ((p % 8 : Nat) : Int))) - 0) - 0) - ((M 37 (3 * q + 2)) * ((M 31 2) - 1))))), (5, .int (iZ (M 37 (3 * q + 2)))), (4, .int (iZ 2)), (0, .ref (wa w 30)), (1, .int (iZ ((q : Nat) : Int))), (2, .int (iZ ((p : Nat) : Int)))]) (by rw [hkL]; decide) rfl ?_
              refine ww_iinc2 C dX6_at_95 2 rfl (b := 3) (by omega) (lv' := [(4, .int (iZ 3)), (3, .int (iZ (((((((M 37 (3 * q)) * ((p / 64 : Nat) : Int)) + ((M 37 (3 * q + 1)) * ((p / 8 % 8 : Nat) : Int))) + ((M 37 (3 * q + 2)) * ((p % 8 : Nat) : Int))) - 0) - 0) - ((M 37 (3 * q + 2)) * ((M 31 2) - 1))))), (5, .int (iZ (M 37 (3 * q + 2)))), (0, .ref (wa w 30)), (1, .int (iZ ((q : Nat) : Int))), (2, .int (iZ ((p : Nat) : Int)))]) (by rw [hkL]; decide) rfl ?_
              refine ww_goto C 52 dX6_at_98 (by decide) ?_
              refine ww_iload C dX6_at_52 0 rfl ?_
              refine ww_iconst C dX6_at_54 ?_
              refine ww_icmp_ge C 101 dX6_at_55 (by decide) (by omega) (by omega) (fun c_55 => ?_) (fun c_55 => ?_)
              · refine ww_iload_n C dX6_at_101 1 rfl ?_
                exact RT _ _ _ _ dX6_at_102 (⟨by unfold atZ dotP dotZ lesZ; omega, rfl⟩)
              · exact absurd c_55 (by decide)
        · refine ww_iload C dX6_at_77 0 rfl ?_
          refine ww_aload_n C dX6_at_79 3 rfl ?_
          refine gt_X6_7 C dX6_at_80 ?_
          refine ww_iload C dX6_at_83 1 rfl ?_
          refine al_31 C 1 (z := M 31 1) rfl (by omega) rfl dX6_at_85 ?_
          refine ww_iconst C dX6_at_86 ?_
          refine ww_isub C dX6_at_87 ?_
          refine ww_imul C dX6_at_88 ?_
          refine ww_goto C 93 dX6_at_89 (by decide) ?_
          refine ww_isub C dX6_at_93 ?_
          refine ww_istore_n C dX6_at_94 (lv' := [(3, .int (iZ ((((((M 37 (3 * q)) * ((p / 64 : Nat) : Int)) + ((M 37 (3 * q + 1)) * ((p / 8 % 8 : Nat) : Int))) + ((M 37 (3 * q + 2)) * ((p % 8 : Nat) : Int))) - 0) - ((M 37 (3 * q + 1)) * ((M 31 1) - 1))))), (5, .int (iZ (M 37 (3 * q + 1)))), (4, .int (iZ 1)), (0, .ref (wa w 30)), (1, .int (iZ ((q : Nat) : Int))), (2, .int (iZ ((p : Nat) : Int)))]) (by rw [hkL]; decide) rfl ?_
          refine ww_iinc2 C dX6_at_95 2 rfl (b := 2) (by omega) (lv' := [(4, .int (iZ 2)), (3, .int (iZ ((((((M 37 (3 * q)) * ((p / 64 : Nat) : Int)) + ((M 37 (3 * q + 1)) * ((p / 8 % 8 : Nat) : Int))) + ((M 37 (3 * q + 2)) * ((p % 8 : Nat) : Int))) - 0) - ((M 37 (3 * q + 1)) * ((M 31 1) - 1))))), (5, .int (iZ (M 37 (3 * q + 1)))), (0, .ref (wa w 30)), (1, .int (iZ ((q : Nat) : Int))), (2, .int (iZ ((p : Nat) : Int)))]) (by rw [hkL]; decide) rfl ?_
          refine ww_goto C 52 dX6_at_98 (by decide) ?_
          refine ww_iload C dX6_at_52 0 rfl ?_
          refine ww_iconst C dX6_at_54 ?_
          refine ww_icmp_ge C 101 dX6_at_55 (by decide) (by omega) (by omega) (fun c_55 => ?_) (fun c_55 => ?_)
          · exact absurd c_55 (by decide)
          · refine ww_aload_n C dX6_at_58 3 rfl ?_
            refine gt_X6_28 C dX6_at_59 ?_
            refine ww_iconst C dX6_at_62 ?_
            refine ww_iload_n C dX6_at_63 4 rfl ?_
            refine ww_imul C dX6_at_64 ?_
            refine ww_iload C dX6_at_65 0 rfl ?_
            refine ww_iadd C dX6_at_67 ?_
            refine al_37 C (3 * q + 2) (z := M 37 (3 * q + 2)) (by omega) (by omega) rfl dX6_at_68 ?_
            refine ww_istore C dX6_at_69 (lv' := [(5, .int (iZ (M 37 (3 * q + 2)))), (4, .int (iZ 2)), (3, .int (iZ ((((((M 37 (3 * q)) * ((p / 64 : Nat) : Int)) + ((M 37 (3 * q + 1)) * ((p / 8 % 8 : Nat) : Int))) + ((M 37 (3 * q + 2)) * ((p % 8 : Nat) : Int))) - 0) - ((M 37 (3 * q + 1)) * ((M 31 1) - 1))))), (0, .ref (wa w 30)), (1, .int (iZ ((q : Nat) : Int))), (2, .int (iZ ((p : Nat) : Int)))]) (by rw [hkL]; decide) rfl ?_
            refine ww_iload_n C dX6_at_71 2 rfl ?_
            refine ww_iload C dX6_at_72 0 rfl ?_
            refine ww_if_ge C 92 dX6_at_74 (by decide) (by omega) (fun c_74 => ?_) (fun c_74 => ?_)
            · refine ww_iconst C dX6_at_92 ?_
              refine ww_isub C dX6_at_93 ?_
              refine ww_istore_n C dX6_at_94 (lv' := [(3, .int (iZ (((((((M 37 (3 * q)) * ((p / 64 : Nat) : Int)) + ((M 37 (3 * q + 1)) * ((p / 8 % 8 : Nat) : Int))) + ((M 37 (3 * q + 2)) * ((p % 8 : Nat) : Int))) - 0) - ((M 37 (3 * q + 1)) * ((M 31 1) - 1))) - 0))), (5, .int (iZ (M 37 (3 * q + 2)))), (4, .int (iZ 2)), (0, .ref (wa w 30)), (1, .int (iZ ((q : Nat) : Int))), (2, .int (iZ ((p : Nat) : Int)))]) (by rw [hkL]; decide) rfl ?_
              refine ww_iinc2 C dX6_at_95 2 rfl (b := 3) (by omega) (lv' := [(4, .int (iZ 3)), (3, .int (iZ (((((((M 37 (3 * q)) * ((p / 64 : Nat) : Int)) + ((M 37 (3 * q + 1)) * ((p / 8 % 8 : Nat) : Int))) + ((M 37 (3 * q + 2)) * ((p % 8 : Nat) : Int))) - 0) - ((M 37 (3 * q + 1)) * ((M 31 1) - 1))) - 0))), (5, .int (iZ (M 37 (3 * q + 2)))), (0, .ref (wa w 30)), (1, .int (iZ ((q : Nat) : Int))), (2, .int (iZ ((p : Nat) : Int)))]) (by rw [hkL]; decide) rfl ?_
              refine ww_goto C 52 dX6_at_98 (by decide) ?_
              refine ww_iload C dX6_at_52 0 rfl ?_
              refine ww_iconst C dX6_at_54 ?_
              refine ww_icmp_ge C 101 dX6_at_55 (by decide) (by omega) (by omega) (fun c_55 => ?_) (fun c_55 => ?_)
              · refine ww_iload_n C dX6_at_101 1 rfl ?_
                exact RT _ _ _ _ dX6_at_102 (⟨by unfold atZ dotP dotZ lesZ; omega, rfl⟩)
              · exact absurd c_55 (by decide)
            · refine ww_iload C dX6_at_77 0 rfl ?_
              refine ww_aload_n C dX6_at_79 3 rfl ?_
              refine gt_X6_7 C dX6_at_80 ?_
              refine ww_iload C dX6_at_83 1 rfl ?_
              refine al_31 C 2 (z := M 31 2) rfl (by omega) rfl dX6_at_85 ?_
              refine ww_iconst C dX6_at_86 ?_
              refine ww_isub C dX6_at_87 ?_
              refine ww_imul C dX6_at_88 ?_
              refine ww_goto C 93 dX6_at_89 (by decide) ?_
              refine ww_isub C dX6_at_93 ?_
              refine ww_istore_n C dX6_at_94 (lv' := [(3, .int (iZ (((((((M 37 (3 * q)) * ((p / 64 : Nat) : Int)) + ((M 37 (3 * q + 1)) * ((p / 8 % 8 : Nat) : Int))) + ((M 37 (3 * q + 2)) * ((p % 8 : Nat) : Int))) - 0) - ((M 37 (3 * q + 1)) * ((M 31 1) - 1))) - ((M 37 (3 * q + 2)) * ((M 31 2) - 1))))), (5, .int (iZ (M 37 (3 * q + 2)))), (4, .int (iZ 2)), (0, .ref (wa w 30)), (1, .int (iZ ((q : Nat) : Int))), (2, .int (iZ ((p : Nat) : Int)))]) (by rw [hkL]; decide) rfl ?_
              refine ww_iinc2 C dX6_at_95 2 rfl (b := 3) (by omega) (lv' := [(4, .int (iZ 3)), (3, .int (iZ (((((((M 37 (3 * q)) * ((p / 64 : Nat) : Int)) + ((M 37 (3 * q + 1)) * ((p / 8 % 8 : Nat) : Int))) + ((M 37 (3 * q + 2)) * ((p % 8 : Nat) : Int))) - 0) - ((M 37 (3 * q + 1)) * ((M 31 1) - 1))) - ((M 37 (3 * q + 2)) * ((M 31 2) - 1))))), (5, .int (iZ (M 37 (3 * q + 2)))), (0, .ref (wa w 30)), (1, .int (iZ ((q : Nat) : Int))), (2, .int (iZ ((p : Nat) : Int)))]) (by rw [hkL]; decide) rfl ?_
              refine ww_goto C 52 dX6_at_98 (by decide) ?_
              refine ww_iload C dX6_at_52 0 rfl ?_
              refine ww_iconst C dX6_at_54 ?_
              refine ww_icmp_ge C 101 dX6_at_55 (by decide) (by omega) (by omega) (fun c_55 => ?_) (fun c_55 => ?_)
              · refine ww_iload_n C dX6_at_101 1 rfl ?_
                exact RT _ _ _ _ dX6_at_102 (⟨by unfold atZ dotP dotZ lesZ; omega, rfl⟩)
              · exact absurd c_55 (by decide)
    · refine ww_iload C dX6_at_77 0 rfl ?_
      refine ww_aload_n C dX6_at_79 3 rfl ?_
      refine gt_X6_7 C dX6_at_80 ?_
      refine ww_iload C dX6_at_83 1 rfl ?_
      refine al_31 C 0 (z := M 31 0) rfl (by omega) rfl dX6_at_85 ?_
      refine ww_iconst C dX6_at_86 ?_
      refine ww_isub C dX6_at_87 ?_
      refine ww_imul C dX6_at_88 ?_
      refine ww_goto C 93 dX6_at_89 (by decide) ?_
      refine ww_isub C dX6_at_93 ?_
      refine ww_istore_n C dX6_at_94 (lv' := [(3, .int (iZ (((((M 37 (3 * q)) * ((p / 64 : Nat) : Int)) + ((M 37 (3 * q + 1)) * ((p / 8 % 8 : Nat) : Int))) + ((M 37 (3 * q + 2)) * ((p % 8 : Nat) : Int))) - ((M 37 (3 * q)) * ((M 31 0) - 1))))), (5, .int (iZ (M 37 (3 * q)))), (4, .int (iZ 0)), (0, .ref (wa w 30)), (1, .int (iZ ((q : Nat) : Int))), (2, .int (iZ ((p : Nat) : Int)))]) (by rw [hkL]; decide) rfl ?_
      refine ww_iinc2 C dX6_at_95 2 rfl (b := 1) (by omega) (lv' := [(4, .int (iZ 1)), (3, .int (iZ (((((M 37 (3 * q)) * ((p / 64 : Nat) : Int)) + ((M 37 (3 * q + 1)) * ((p / 8 % 8 : Nat) : Int))) + ((M 37 (3 * q + 2)) * ((p % 8 : Nat) : Int))) - ((M 37 (3 * q)) * ((M 31 0) - 1))))), (5, .int (iZ (M 37 (3 * q)))), (0, .ref (wa w 30)), (1, .int (iZ ((q : Nat) : Int))), (2, .int (iZ ((p : Nat) : Int)))]) (by rw [hkL]; decide) rfl ?_
      refine ww_goto C 52 dX6_at_98 (by decide) ?_
      refine ww_iload C dX6_at_52 0 rfl ?_
      refine ww_iconst C dX6_at_54 ?_
      refine ww_icmp_ge C 101 dX6_at_55 (by decide) (by omega) (by omega) (fun c_55 => ?_) (fun c_55 => ?_)
      · exact absurd c_55 (by decide)
      · refine ww_aload_n C dX6_at_58 3 rfl ?_
        refine gt_X6_28 C dX6_at_59 ?_
        refine ww_iconst C dX6_at_62 ?_
        refine ww_iload_n C dX6_at_63 4 rfl ?_
        refine ww_imul C dX6_at_64 ?_
        refine ww_iload C dX6_at_65 0 rfl ?_
        refine ww_iadd C dX6_at_67 ?_
        refine al_37 C (3 * q + 1) (z := M 37 (3 * q + 1)) (by omega) (by omega) rfl dX6_at_68 ?_
        refine ww_istore C dX6_at_69 (lv' := [(5, .int (iZ (M 37 (3 * q + 1)))), (4, .int (iZ 1)), (3, .int (iZ (((((M 37 (3 * q)) * ((p / 64 : Nat) : Int)) + ((M 37 (3 * q + 1)) * ((p / 8 % 8 : Nat) : Int))) + ((M 37 (3 * q + 2)) * ((p % 8 : Nat) : Int))) - ((M 37 (3 * q)) * ((M 31 0) - 1))))), (0, .ref (wa w 30)), (1, .int (iZ ((q : Nat) : Int))), (2, .int (iZ ((p : Nat) : Int)))]) (by rw [hkL]; decide) rfl ?_
        refine ww_iload_n C dX6_at_71 2 rfl ?_
        refine ww_iload C dX6_at_72 0 rfl ?_
        refine ww_if_ge C 92 dX6_at_74 (by decide) (by omega) (fun c_74 => ?_) (fun c_74 => ?_)
        · refine ww_iconst C dX6_at_92 ?_
          refine ww_isub C dX6_at_93 ?_
          refine ww_istore_n C dX6_at_94 (lv' := [(3, .int (iZ ((((((M 37 (3 * q)) * ((p / 64 : Nat) : Int)) + ((M 37 (3 * q + 1)) * ((p / 8 % 8 : Nat) : Int))) + ((M 37 (3 * q + 2)) * ((p % 8 : Nat) : Int))) - ((M 37 (3 * q)) * ((M 31 0) - 1))) - 0))), (5, .int (iZ (M 37 (3 * q + 1)))), (4, .int (iZ 1)), (0, .ref (wa w 30)), (1, .int (iZ ((q : Nat) : Int))), (2, .int (iZ ((p : Nat) : Int)))]) (by rw [hkL]; decide) rfl ?_
          refine ww_iinc2 C dX6_at_95 2 rfl (b := 2) (by omega) (lv' := [(4, .int (iZ 2)), (3, .int (iZ ((((((M 37 (3 * q)) * ((p / 64 : Nat) : Int)) + ((M 37 (3 * q + 1)) * ((p / 8 % 8 : Nat) : Int))) + ((M 37 (3 * q + 2)) * ((p % 8 : Nat) : Int))) - ((M 37 (3 * q)) * ((M 31 0) - 1))) - 0))), (5, .int (iZ (M 37 (3 * q + 1)))), (0, .ref (wa w 30)), (1, .int (iZ ((q : Nat) : Int))), (2, .int (iZ ((p : Nat) : Int)))]) (by rw [hkL]; decide) rfl ?_
          refine ww_goto C 52 dX6_at_98 (by decide) ?_
          refine ww_iload C dX6_at_52 0 rfl ?_
          refine ww_iconst C dX6_at_54 ?_
          refine ww_icmp_ge C 101 dX6_at_55 (by decide) (by omega) (by omega) (fun c_55 => ?_) (fun c_55 => ?_)
          · exact absurd c_55 (by decide)
          · refine ww_aload_n C dX6_at_58 3 rfl ?_
            refine gt_X6_28 C dX6_at_59 ?_
            refine ww_iconst C dX6_at_62 ?_
            refine ww_iload_n C dX6_at_63 4 rfl ?_
            refine ww_imul C dX6_at_64 ?_
            refine ww_iload C dX6_at_65 0 rfl ?_
            refine ww_iadd C dX6_at_67 ?_
            refine al_37 C (3 * q + 2) (z := M 37 (3 * q + 2)) (by omega) (by omega) rfl dX6_at_68 ?_
            refine ww_istore C dX6_at_69 (lv' := [(5, .int (iZ (M 37 (3 * q + 2)))), (4, .int (iZ 2)), (3, .int (iZ ((((((M 37 (3 * q)) * ((p / 64 : Nat) : Int)) + ((M 37 (3 * q + 1)) * ((p / 8 % 8 : Nat) : Int))) + ((M 37 (3 * q + 2)) * ((p % 8 : Nat) : Int))) - ((M 37 (3 * q)) * ((M 31 0) - 1))) - 0))), (0, .ref (wa w 30)), (1, .int (iZ ((q : Nat) : Int))), (2, .int (iZ ((p : Nat) : Int)))]) (by rw [hkL]; decide) rfl ?_
            refine ww_iload_n C dX6_at_71 2 rfl ?_
            refine ww_iload C dX6_at_72 0 rfl ?_
            refine ww_if_ge C 92 dX6_at_74 (by decide) (by omega) (fun c_74 => ?_) (fun c_74 => ?_)
            · refine ww_iconst C dX6_at_92 ?_
              refine ww_isub C dX6_at_93 ?_
              refine ww_istore_n C dX6_at_94 (lv' := [(3, .int (iZ (((((((M 37 (3 * q)) * ((p / 64 : Nat) : Int)) + ((M 37 (3 * q + 1)) * ((p / 8 % 8 : Nat) : Int))) + ((M 37 (3 * q + 2)) * ((p % 8 : Nat) : Int))) - ((M 37 (3 * q)) * ((M 31 0) - 1))) - 0) - 0))), (5, .int (iZ (M 37 (3 * q + 2)))), (4, .int (iZ 2)), (0, .ref (wa w 30)), (1, .int (iZ ((q : Nat) : Int))), (2, .int (iZ ((p : Nat) : Int)))]) (by rw [hkL]; decide) rfl ?_
              refine ww_iinc2 C dX6_at_95 2 rfl (b := 3) (by omega) (lv' := [(4, .int (iZ 3)), (3, .int (iZ (((((((M 37 (3 * q)) * ((p / 64 : Nat) : Int)) + ((M 37 (3 * q + 1)) * ((p / 8 % 8 : Nat) : Int))) + ((M 37 (3 * q + 2)) * ((p % 8 : Nat) : Int))) - ((M 37 (3 * q)) * ((M 31 0) - 1))) - 0) - 0))), (5, .int (iZ (M 37 (3 * q + 2)))), (0, .ref (wa w 30)), (1, .int (iZ ((q : Nat) : Int))), (2, .int (iZ ((p : Nat) : Int)))]) (by rw [hkL]; decide) rfl ?_
              refine ww_goto C 52 dX6_at_98 (by decide) ?_
              refine ww_iload C dX6_at_52 0 rfl ?_
              refine ww_iconst C dX6_at_54 ?_
              refine ww_icmp_ge C 101 dX6_at_55 (by decide) (by omega) (by omega) (fun c_55 => ?_) (fun c_55 => ?_)
              · refine ww_iload_n C dX6_at_101 1 rfl ?_
                exact RT _ _ _ _ dX6_at_102 (⟨by unfold atZ dotP dotZ lesZ; omega, rfl⟩)
              · exact absurd c_55 (by decide)
            · refine ww_iload C dX6_at_77 0 rfl ?_
              refine ww_aload_n C dX6_at_79 3 rfl ?_
              refine gt_X6_7 C dX6_at_80 ?_
              refine ww_iload C dX6_at_83 1 rfl ?_
              refine al_31 C 2 (z := M 31 2) rfl (by omega) rfl dX6_at_85 ?_
              refine ww_iconst C dX6_at_86 ?_
              refine ww_isub C dX6_at_87 ?_
              refine ww_imul C dX6_at_88 ?_
              refine ww_goto C 93 dX6_at_89 (by decide) ?_
              refine ww_isub C dX6_at_93 ?_
              refine ww_istore_n C dX6_at_94 (lv' := [(3, .int (iZ (((((((M 37 (3 * q)) * ((p / 64 : Nat) : Int)) + ((M 37 (3 * q + 1)) * ((p / 8 % 8 : Nat) : Int))) + ((M 37 (3 * q + 2)) * ((p % 8 : Nat) : Int))) - ((M 37 (3 * q)) * ((M 31 0) - 1))) - 0) - ((M 37 (3 * q + 2)) * ((M 31 2) - 1))))), (5, .int (iZ (M 37 (3 * q + 2)))), (4, .int (iZ 2)), (0, .ref (wa w 30)), (1, .int (iZ ((q : Nat) : Int))), (2, .int (iZ ((p : Nat) : Int)))]) (by rw [hkL]; decide) rfl ?_
              refine ww_iinc2 C dX6_at_95 2 rfl (b := 3) (by omega) (lv' := [(4, .int (iZ 3)), (3, .int (iZ (((((((M 37 (3 * q)) * ((p / 64 : Nat) : Int)) + ((M 37 (3 * q + 1)) * ((p / 8 % 8 : Nat) : Int))) + ((M 37 (3 * q + 2)) * ((p % 8 : Nat) : Int))) - ((M 37 (3 * q)) * ((M 31 0) - 1))) - 0) - ((M 37 (3 * q + 2)) * ((M 31 2) - 1))))), (5, .int (iZ (M 37 (3 * q + 2)))), (0, .ref (wa w 30)), (1, .int (iZ ((q : Nat) : Int))), (2, .int (iZ ((p : Nat) : Int)))]) (by rw [hkL]; decide) rfl ?_
              refine ww_goto C 52 dX6_at_98 (by decide) ?_
              refine ww_iload C dX6_at_52 0 rfl ?_
              refine ww_iconst C dX6_at_54 ?_
              refine ww_icmp_ge C 101 dX6_at_55 (by decide) (by omega) (by omega) (fun c_55 => ?_) (fun c_55 => ?_)
              · refine ww_iload_n C dX6_at_101 1 rfl ?_
                exact RT _ _ _ _ dX6_at_102 (⟨by unfold atZ dotP dotZ lesZ; omega, rfl⟩)
              · exact absurd c_55 (by decide)
        · refine ww_iload C dX6_at_77 0 rfl ?_
          refine ww_aload_n C dX6_at_79 3 rfl ?_
          refine gt_X6_7 C dX6_at_80 ?_
          refine ww_iload C dX6_at_83 1 rfl ?_
          refine al_31 C 1 (z := M 31 1) rfl (by omega) rfl dX6_at_85 ?_
          refine ww_iconst C dX6_at_86 ?_
          refine ww_isub C dX6_at_87 ?_
          refine ww_imul C dX6_at_88 ?_
          refine ww_goto C 93 dX6_at_89 (by decide) ?_
          refine ww_isub C dX6_at_93 ?_
          refine ww_istore_n C dX6_at_94 (lv' := [(3, .int (iZ ((((((M 37 (3 * q)) * ((p / 64 : Nat) : Int)) + ((M 37 (3 * q + 1)) * ((p / 8 % 8 : Nat) : Int))) + ((M 37 (3 * q + 2)) * ((p % 8 : Nat) : Int))) - ((M 37 (3 * q)) * ((M 31 0) - 1))) - ((M 37 (3 * q + 1)) * ((M 31 1) - 1))))), (5, .int (iZ (M 37 (3 * q + 1)))), (4, .int (iZ 1)), (0, .ref (wa w 30)), (1, .int (iZ ((q : Nat) : Int))), (2, .int (iZ ((p : Nat) : Int)))]) (by rw [hkL]; decide) rfl ?_
          refine ww_iinc2 C dX6_at_95 2 rfl (b := 2) (by omega) (lv' := [(4, .int (iZ 2)), (3, .int (iZ ((((((M 37 (3 * q)) * ((p / 64 : Nat) : Int)) + ((M 37 (3 * q + 1)) * ((p / 8 % 8 : Nat) : Int))) + ((M 37 (3 * q + 2)) * ((p % 8 : Nat) : Int))) - ((M 37 (3 * q)) * ((M 31 0) - 1))) - ((M 37 (3 * q + 1)) * ((M 31 1) - 1))))), (5, .int (iZ (M 37 (3 * q + 1)))), (0, .ref (wa w 30)), (1, .int (iZ ((q : Nat) : Int))), (2, .int (iZ ((p : Nat) : Int)))]) (by rw [hkL]; decide) rfl ?_
          refine ww_goto C 52 dX6_at_98 (by decide) ?_
          refine ww_iload C dX6_at_52 0 rfl ?_
          refine ww_iconst C dX6_at_54 ?_
          refine ww_icmp_ge C 101 dX6_at_55 (by decide) (by omega) (by omega) (fun c_55 => ?_) (fun c_55 => ?_)
          · exact absurd c_55 (by decide)
          · refine ww_aload_n C dX6_at_58 3 rfl ?_
            refine gt_X6_28 C dX6_at_59 ?_
            refine ww_iconst C dX6_at_62 ?_
            refine ww_iload_n C dX6_at_63 4 rfl ?_
            refine ww_imul C dX6_at_64 ?_
            refine ww_iload C dX6_at_65 0 rfl ?_
            refine ww_iadd C dX6_at_67 ?_
            refine al_37 C (3 * q + 2) (z := M 37 (3 * q + 2)) (by omega) (by omega) rfl dX6_at_68 ?_
            refine ww_istore C dX6_at_69 (lv' := [(5, .int (iZ (M 37 (3 * q + 2)))), (4, .int (iZ 2)), (3, .int (iZ ((((((M 37 (3 * q)) * ((p / 64 : Nat) : Int)) + ((M 37 (3 * q + 1)) * ((p / 8 % 8 : Nat) : Int))) + ((M 37 (3 * q + 2)) * ((p % 8 : Nat) : Int))) - ((M 37 (3 * q)) * ((M 31 0) - 1))) - ((M 37 (3 * q + 1)) * ((M 31 1) - 1))))), (0, .ref (wa w 30)), (1, .int (iZ ((q : Nat) : Int))), (2, .int (iZ ((p : Nat) : Int)))]) (by rw [hkL]; decide) rfl ?_
            refine ww_iload_n C dX6_at_71 2 rfl ?_
            refine ww_iload C dX6_at_72 0 rfl ?_
            refine ww_if_ge C 92 dX6_at_74 (by decide) (by omega) (fun c_74 => ?_) (fun c_74 => ?_)
            · refine ww_iconst C dX6_at_92 ?_
              refine ww_isub C dX6_at_93 ?_
              refine ww_istore_n C dX6_at_94 (lv' := [(3, .int (iZ (((((((M 37 (3 * q)) * ((p / 64 : Nat) : Int)) + ((M 37 (3 * q + 1)) * ((p / 8 % 8 : Nat) : Int))) + ((M 37 (3 * q + 2)) * ((p % 8 : Nat) : Int))) - ((M 37 (3 * q)) * ((M 31 0) - 1))) - ((M 37 (3 * q + 1)) * ((M 31 1) - 1))) - 0))), (5, .int (iZ (M 37 (3 * q + 2)))), (4, .int (iZ 2)), (0, .ref (wa w 30)), (1, .int (iZ ((q : Nat) : Int))), (2, .int (iZ ((p : Nat) : Int)))]) (by rw [hkL]; decide) rfl ?_
              refine ww_iinc2 C dX6_at_95 2 rfl (b := 3) (by omega) (lv' := [(4, .int (iZ 3)), (3, .int (iZ (((((((M 37 (3 * q)) * ((p / 64 : Nat) : Int)) + ((M 37 (3 * q + 1)) * ((p / 8 % 8 : Nat) : Int))) + ((M 37 (3 * q + 2)) * ((p % 8 : Nat) : Int))) - ((M 37 (3 * q)) * ((M 31 0) - 1))) - ((M 37 (3 * q + 1)) * ((M 31 1) - 1))) - 0))), (5, .int (iZ (M 37 (3 * q + 2)))), (0, .ref (wa w 30)), (1, .int (iZ ((q : Nat) : Int))), (2, .int (iZ ((p : Nat) : Int)))]) (by rw [hkL]; decide) rfl ?_
              refine ww_goto C 52 dX6_at_98 (by decide) ?_
              refine ww_iload C dX6_at_52 0 rfl ?_
              refine ww_iconst C dX6_at_54 ?_
              refine ww_icmp_ge C 101 dX6_at_55 (by decide) (by omega) (by omega) (fun c_55 => ?_) (fun c_55 => ?_)
              · refine ww_iload_n C dX6_at_101 1 rfl ?_
                exact RT _ _ _ _ dX6_at_102 (⟨by unfold atZ dotP dotZ lesZ; omega, rfl⟩)
              · exact absurd c_55 (by decide)
            · refine ww_iload C dX6_at_77 0 rfl ?_
              refine ww_aload_n C dX6_at_79 3 rfl ?_
              refine gt_X6_7 C dX6_at_80 ?_
              refine ww_iload C dX6_at_83 1 rfl ?_
              refine al_31 C 2 (z := M 31 2) rfl (by omega) rfl dX6_at_85 ?_
              refine ww_iconst C dX6_at_86 ?_
              refine ww_isub C dX6_at_87 ?_
              refine ww_imul C dX6_at_88 ?_
              refine ww_goto C 93 dX6_at_89 (by decide) ?_
              refine ww_isub C dX6_at_93 ?_
              refine ww_istore_n C dX6_at_94 (lv' := [(3, .int (iZ (((((((M 37 (3 * q)) * ((p / 64 : Nat) : Int)) + ((M 37 (3 * q + 1)) * ((p / 8 % 8 : Nat) : Int))) + ((M 37 (3 * q + 2)) * ((p % 8 : Nat) : Int))) - ((M 37 (3 * q)) * ((M 31 0) - 1))) - ((M 37 (3 * q + 1)) * ((M 31 1) - 1))) - ((M 37 (3 * q + 2)) * ((M 31 2) - 1))))), (5, .int (iZ (M 37 (3 * q + 2)))), (4, .int (iZ 2)), (0, .ref (wa w 30)), (1, .int (iZ ((q : Nat) : Int))), (2, .int (iZ ((p : Nat) : Int)))]) (by rw [hkL]; decide) rfl ?_
              refine ww_iinc2 C dX6_at_95 2 rfl (b := 3) (by omega) (lv' := [(4, .int (iZ 3)), (3, .int (iZ (((((((M 37 (3 * q)) * ((p / 64 : Nat) : Int)) + ((M 37 (3 * q + 1)) * ((p / 8 % 8 : Nat) : Int))) + ((M 37 (3 * q + 2)) * ((p % 8 : Nat) : Int))) - ((M 37 (3 * q)) * ((M 31 0) - 1))) - ((M 37 (3 * q + 1)) * ((M 31 1) - 1))) - ((M 37 (3 * q + 2)) * ((M 31 2) - 1))))), (5, .int (iZ (M 37 (3 * q + 2)))), (0, .ref (wa w 30)), (1, .int (iZ ((q : Nat) : Int))), (2, .int (iZ ((p : Nat) : Int)))]) (by rw [hkL]; decide) rfl ?_
              refine ww_goto C 52 dX6_at_98 (by decide) ?_
              refine ww_iload C dX6_at_52 0 rfl ?_
              refine ww_iconst C dX6_at_54 ?_
              refine ww_icmp_ge C 101 dX6_at_55 (by decide) (by omega) (by omega) (fun c_55 => ?_) (fun c_55 => ?_)
              · refine ww_iload_n C dX6_at_101 1 rfl ?_
                exact RT _ _ _ _ dX6_at_102 (⟨by unfold atZ dotP dotZ lesZ; omega, rfl⟩)
              · exact absurd c_55 (by decide)
set_option maxRecDepth 100000 in
set_option maxHeartbeats 4000000 in
theorem ct_X6_beatOf (w : WLD) (M : Mem) (p : Nat) (hnu : NuOk (M 37)) (hs : SzOk (M 31)) (hf : 1 ≤ M 30 8 ∧ M 30 8 ≤ 8) (hpp : isP (M 31) p) : CtI w yX6_beatOf cX6_beatOf 2 (some .int) rm_X6_beatOf [.ref (wa w 30), .int (iZ ((p : Nat) : Int))] M (fun z M1 => z = beatZ (M 37) (M 31) (M 30 8) p ∧ M1 = M) := by
  refine CtI.of (by decide) (Nat.le_of_ble_eq_true rfl) rfl rfl ?_
  intro k hkL C RT
  have g0 := atZ_b (h := 0) hnu hs (by omega) hpp
  have g1 := atZ_b (h := 1) hnu hs (by omega) hpp
  have hp5 := isP_lt hs hpp
  show WW w k 0 [(0, .ref (wa w 30)), (1, .int (iZ ((p : Nat) : Int)))] [] M
  refine ww_aload_n C dX6_beatOf_0 0 rfl ?_
  refine gt_X6_31 C dX6_beatOf_1 ?_
  refine ww_aload_n C dX6_beatOf_4 0 rfl ?_
  refine ww_iconst C dX6_beatOf_5 ?_
  refine ww_iload_n C dX6_beatOf_6 1 rfl ?_
  refine ww_callV C (As := [.int (iZ 0), .int (iZ ((p : Nat) : Int))]) 30 (by decide) (ct_X6_at w M 0 p (by omega) (by omega) (hnu) (hs)) mf_X6_at ml_X6_75 rfl rfl (by decide) rfl rfl (Nat.le_of_ble_eq_true rfl) dX6_beatOf_7 (fun z_7 M_7 hp_7 => ?_)
  rw [hp_7.1, hp_7.2]
  refine ww_imul C dX6_beatOf_10 ?_
  refine ww_aload_n C dX6_beatOf_11 0 rfl ?_
  refine ww_iconst C dX6_beatOf_12 ?_
  refine ww_iload_n C dX6_beatOf_13 1 rfl ?_
  refine ww_callV C (As := [.int (iZ 1), .int (iZ ((p : Nat) : Int))]) 30 (by decide) (ct_X6_at w M 1 p (by omega) (by omega) (hnu) (hs)) mf_X6_at ml_X6_75 rfl rfl (by decide) rfl rfl (Nat.le_of_ble_eq_true rfl) dX6_beatOf_14 (fun z_14 M_14 hp_14 => ?_)
  rw [hp_14.1, hp_14.2]
  refine ww_aload_n C dX6_beatOf_17 0 rfl ?_
  refine gt_X6_31 C dX6_beatOf_18 ?_
  refine ww_iremN C dX6_beatOf_21 (by omega) (by omega) ?_
  refine ww_iadd C dX6_beatOf_22 ?_
  exact RT _ _ _ _ dX6_beatOf_23 (⟨rfl, rfl⟩)
set_option maxRecDepth 100000 in
set_option maxHeartbeats 4000000 in
theorem ct_X6_cellOf (w : WLD) (M : Mem) (p : Nat) (hnu : NuOk (M 37)) (hs : SzOk (M 31)) (hf : 1 ≤ M 30 8 ∧ M 30 8 ≤ 8) (hpp : isP (M 31) p) : CtI w yX6_cellOf cX6_cellOf 2 (some .int) rm_X6_cellOf [.ref (wa w 30), .int (iZ ((p : Nat) : Int))] M (fun z M1 => z = cellZ (M 37) (M 31) (M 30 8) p ∧ M1 = M) := by
  refine CtI.of (by decide) (Nat.le_of_ble_eq_true rfl) rfl rfl ?_
  intro k hkL C RT
  have g0 := atZ_b (h := 0) hnu hs (by omega) hpp
  have g1 := atZ_b (h := 1) hnu hs (by omega) hpp
  have hp5 := isP_lt hs hpp
  show WW w k 0 [(0, .ref (wa w 30)), (1, .int (iZ ((p : Nat) : Int)))] [] M
  refine ww_aload_n C dX6_cellOf_0 0 rfl ?_
  refine ww_iconst C dX6_cellOf_1 ?_
  refine ww_iload_n C dX6_cellOf_2 1 rfl ?_
  refine ww_callV C (As := [.int (iZ 1), .int (iZ ((p : Nat) : Int))]) 30 (by decide) (ct_X6_at w M 1 p (by omega) (by omega) (hnu) (hs)) mf_X6_at ml_X6_75 rfl rfl (by decide) rfl rfl (Nat.le_of_ble_eq_true rfl) dX6_cellOf_3 (fun z_3 M_3 hp_3 => ?_)
  rw [hp_3.1, hp_3.2]
  refine ww_aload_n C dX6_cellOf_6 0 rfl ?_
  refine gt_X6_31 C dX6_cellOf_7 ?_
  refine ww_idivN C dX6_cellOf_10 (by omega) (by omega) ?_
  exact RT _ _ _ _ dX6_cellOf_11 (⟨rfl, rfl⟩)
set_option maxRecDepth 100000 in
set_option maxHeartbeats 4000000 in
theorem ct_X6_stepBy (w : WLD) (M : Mem) (q v : Nat) (hq : q < 3) (hv : v < 4) : CtI w yX6_stepBy cX6_stepBy 3 (some .int) rm_X6_stepBy [.ref (wa w 30), .int (iZ ((q : Nat) : Int)), .int (iZ ((v : Nat) : Int))] M (fun z M1 => z = stepB (M 37) (M 32) q v ∧ M1 = M) := by
  refine CtI.of (by decide) (Nat.le_of_ble_eq_true rfl) rfl rfl ?_
  intro k hkL C RT
  show WW w k 0 [(0, .ref (wa w 30)), (1, .int (iZ ((q : Nat) : Int))), (2, .int (iZ ((v : Nat) : Int)))] [] M
  refine ww_aload_n C dX6_stepBy_0 0 rfl ?_
  refine gt_X6_28 C dX6_stepBy_1 ?_
  refine ww_iconst C dX6_stepBy_4 ?_
  refine ww_iload_n C dX6_stepBy_5 1 rfl ?_
  refine ww_imul C dX6_stepBy_6 ?_
  refine al_37 C (3 * q) (z := M 37 (3 * q)) (by omega) (by omega) rfl dX6_stepBy_7 ?_
  refine ww_aload_n C dX6_stepBy_8 0 rfl ?_
  refine gt_X6_13 C dX6_stepBy_9 ?_
  refine ww_iconst C dX6_stepBy_12 ?_
  refine ww_iload_n C dX6_stepBy_13 2 rfl ?_
  refine ww_imul C dX6_stepBy_14 ?_
  refine al_32 C (3 * v) (z := M 32 (3 * v)) (by omega) (by omega) rfl dX6_stepBy_15 ?_
  refine ww_imul C dX6_stepBy_16 ?_
  refine ww_aload_n C dX6_stepBy_17 0 rfl ?_
  refine gt_X6_28 C dX6_stepBy_18 ?_
  refine ww_iconst C dX6_stepBy_21 ?_
  refine ww_iload_n C dX6_stepBy_22 1 rfl ?_
  refine ww_imul C dX6_stepBy_23 ?_
  refine ww_iconst C dX6_stepBy_24 ?_
  refine ww_iadd C dX6_stepBy_25 ?_
  refine al_37 C (3 * q + 1) (z := M 37 (3 * q + 1)) (by omega) (by omega) rfl dX6_stepBy_26 ?_
  refine ww_aload_n C dX6_stepBy_27 0 rfl ?_
  refine gt_X6_13 C dX6_stepBy_28 ?_
  refine ww_iconst C dX6_stepBy_31 ?_
  refine ww_iload_n C dX6_stepBy_32 2 rfl ?_
  refine ww_imul C dX6_stepBy_33 ?_
  refine ww_iconst C dX6_stepBy_34 ?_
  refine ww_iadd C dX6_stepBy_35 ?_
  refine al_32 C (3 * v + 1) (z := M 32 (3 * v + 1)) (by omega) (by omega) rfl dX6_stepBy_36 ?_
  refine ww_imul C dX6_stepBy_37 ?_
  refine ww_iadd C dX6_stepBy_38 ?_
  refine ww_aload_n C dX6_stepBy_39 0 rfl ?_
  refine gt_X6_28 C dX6_stepBy_40 ?_
  refine ww_iconst C dX6_stepBy_43 ?_
  refine ww_iload_n C dX6_stepBy_44 1 rfl ?_
  refine ww_imul C dX6_stepBy_45 ?_
  refine ww_iconst C dX6_stepBy_46 ?_
  refine ww_iadd C dX6_stepBy_47 ?_
  refine al_37 C (3 * q + 2) (z := M 37 (3 * q + 2)) (by omega) (by omega) rfl dX6_stepBy_48 ?_
  refine ww_aload_n C dX6_stepBy_49 0 rfl ?_
  refine gt_X6_13 C dX6_stepBy_50 ?_
  refine ww_iconst C dX6_stepBy_53 ?_
  refine ww_iload_n C dX6_stepBy_54 2 rfl ?_
  refine ww_imul C dX6_stepBy_55 ?_
  refine ww_iconst C dX6_stepBy_56 ?_
  refine ww_iadd C dX6_stepBy_57 ?_
  refine al_32 C (3 * v + 2) (z := M 32 (3 * v + 2)) (by omega) (by omega) rfl dX6_stepBy_58 ?_
  refine ww_imul C dX6_stepBy_59 ?_
  refine ww_iadd C dX6_stepBy_60 ?_
  exact RT _ _ _ _ dX6_stepBy_61 (⟨rfl, rfl⟩)
set_option maxRecDepth 100000 in
set_option maxHeartbeats 4000000 in
theorem ct_X6_delayOf (w : WLD) (M : Mem) (v : Nat) (hv : v < 4) : CtI w yX6_delayOf cX6_delayOf 2 (some .int) rm_X6_delayOf [.ref (wa w 30), .int (iZ ((v : Nat) : Int))] M (fun z M1 => z = stepB (M 37) (M 32) 0 v ∧ M1 = M) := by
  refine CtI.of (by decide) (Nat.le_of_ble_eq_true rfl) rfl rfl ?_
  intro k hkL C RT
  show WW w k 0 [(0, .ref (wa w 30)), (1, .int (iZ ((v : Nat) : Int)))] [] M
  refine ww_aload_n C dX6_delayOf_0 0 rfl ?_
  refine ww_iconst C dX6_delayOf_1 ?_
  refine ww_iload_n C dX6_delayOf_2 1 rfl ?_
  refine ww_callV C (As := [.int (iZ 0), .int (iZ ((v : Nat) : Int))]) 30 (by decide) (ct_X6_stepBy w M 0 v (by omega) (by omega)) mf_X6_stepBy ml_X6_79 rfl rfl (by decide) rfl rfl (Nat.le_of_ble_eq_true rfl) dX6_delayOf_3 (fun z_3 M_3 hp_3 => ?_)
  rw [hp_3.1, hp_3.2]
  exact RT _ _ _ _ dX6_delayOf_6 (⟨rfl, rfl⟩)
set_option maxRecDepth 100000 in
set_option maxHeartbeats 4000000 in
theorem ct_X6_wayOf (w : WLD) (M : Mem) (v : Nat) (hv : v < 4) (hnu : NuOk (M 37)) (hst : StOk (M 32)) : CtI w yX6_wayOf cX6_wayOf 2 (some .int) rm_X6_wayOf [.ref (wa w 30), .int (iZ ((v : Nat) : Int))] M (fun z M1 => z = wayZ (M 37) (M 32) v ∧ M1 = M) := by
  refine CtI.of (by decide) (Nat.le_of_ble_eq_true rfl) rfl rfl ?_
  intro k hkL C RT
  have b1 := stepB_b (h := 1) (v := v) hnu hst (by omega) hv
  have b2 := stepB_b (h := 2) (v := v) hnu hst (by omega) hv
  show WW w k 0 [(0, .ref (wa w 30)), (1, .int (iZ ((v : Nat) : Int)))] [] M
  refine ww_aload_n C dX6_wayOf_0 0 rfl ?_
  refine ww_iconst C dX6_wayOf_1 ?_
  refine ww_iload_n C dX6_wayOf_2 1 rfl ?_
  refine ww_callV C (As := [.int (iZ 1), .int (iZ ((v : Nat) : Int))]) 30 (by decide) (ct_X6_stepBy w M 1 v (by omega) (by omega)) mf_X6_stepBy ml_X6_79 rfl rfl (by decide) rfl rfl (Nat.le_of_ble_eq_true rfl) dX6_wayOf_3 (fun z_3 M_3 hp_3 => ?_)
  rw [hp_3.1, hp_3.2]
  refine ww_callS C (As := [.int (iZ (stepB ((M 37)) ((M 32)) 1 v))]) (ct_X6_absolute w M (stepB ((M 37)) ((M 32)) 1 v) (by omega)) mf_X6_absolute ml_X6_82 (by decide) rfl rfl (Nat.le_of_ble_eq_true rfl) dX6_wayOf_6 (fun z_6 M_6 hp_6 => ?_)
  rw [hp_6.1, hp_6.2]
  refine ww_aload_n C dX6_wayOf_9 0 rfl ?_
  refine ww_iconst C dX6_wayOf_10 ?_
  refine ww_iload_n C dX6_wayOf_11 1 rfl ?_
  refine ww_callV C (As := [.int (iZ 2), .int (iZ ((v : Nat) : Int))]) 30 (by decide) (ct_X6_stepBy w M 2 v (by omega) (by omega)) mf_X6_stepBy ml_X6_79 rfl rfl (by decide) rfl rfl (Nat.le_of_ble_eq_true rfl) dX6_wayOf_12 (fun z_12 M_12 hp_12 => ?_)
  rw [hp_12.1, hp_12.2]
  refine ww_callS C (As := [.int (iZ (stepB ((M 37)) ((M 32)) 2 v))]) (ct_X6_absolute w M (stepB ((M 37)) ((M 32)) 2 v) (by omega)) mf_X6_absolute ml_X6_82 (by decide) rfl rfl (Nat.le_of_ble_eq_true rfl) dX6_wayOf_15 (fun z_15 M_15 hp_15 => ?_)
  rw [hp_15.1, hp_15.2]
  refine ww_iadd C dX6_wayOf_18 ?_
  exact RT _ _ _ _ dX6_wayOf_19 (⟨rfl, rfl⟩)
set_option maxRecDepth 100000 in
set_option maxHeartbeats 4000000 in
theorem ct_X6_isNeeded (w : WLD) (M : Mem) (v : Nat) (hv : v < 4) (hs : SzOk (M 31)) (hst : StOk (M 32)) : CtI w yX6_isNeeded cX6_isNeeded 2 (some .boolean) rm_X6_isNeeded [.ref (wa w 30), .int (iZ ((v : Nat) : Int))] M (fun z M1 => z = b2i (needP (M 31) (M 32) v) ∧ M1 = M) := by
  refine CtI.ofZ (by decide) (Nat.le_of_ble_eq_true rfl) rfl rfl (fun z M9 h9 => by rw [h9.1]; exact b2i_01 _) ?_
  intro k hkL C RT
  have hst0 := hst (3 * v) (by omega)
  have hst1 := hst (3 * v + 1) (by omega)
  have hst2 := hst (3 * v + 2) (by omega)
  have ha0 := aZ_b hst0.1 hst0.2
  have ha1 := aZ_b hst1.1 hst1.2
  have ha2 := aZ_b hst2.1 hst2.2
  show WW w k 0 [(0, .ref (wa w 30)), (1, .int (iZ ((v : Nat) : Int)))] [] M
  refine ww_aload_n C dX6_isNeeded_0 0 rfl ?_
  refine gt_X6_13 C dX6_isNeeded_1 ?_
  refine ww_iconst C dX6_isNeeded_4 ?_
  refine ww_iload_n C dX6_isNeeded_5 1 rfl ?_
  refine ww_imul C dX6_isNeeded_6 ?_
  refine al_32 C (3 * v) (z := M 32 (3 * v)) (by omega) (by omega) rfl dX6_isNeeded_7 ?_
  refine ww_callS C (As := [.int (iZ (M 32 (3 * v)))]) (ct_X6_absolute w M (M 32 (3 * v)) (by omega)) mf_X6_absolute ml_X6_82 (by decide) rfl rfl (Nat.le_of_ble_eq_true rfl) dX6_isNeeded_8 (fun z_8 M_8 hp_8 => ?_)
  rw [hp_8.1, hp_8.2]
  refine ww_aload_n C dX6_isNeeded_11 0 rfl ?_
  refine gt_X6_7 C dX6_isNeeded_12 ?_
  refine ww_iconst C dX6_isNeeded_15 ?_
  refine al_31 C 0 (z := M 31 0) rfl (by omega) rfl dX6_isNeeded_16 ?_
  refine ww_icmp_ge C 68 dX6_isNeeded_17 (by decide) (by omega) (by omega) (fun c_17 => ?_) (fun c_17 => ?_)
  · refine ww_iconst C dX6_isNeeded_68 ?_
    exact RT _ _ _ _ dX6_isNeeded_69 (⟨by first | exact (b2i_t (by omega)).symm | exact (b2i_f (by omega)).symm, rfl⟩)
  · refine ww_aload_n C dX6_isNeeded_20 0 rfl ?_
    refine gt_X6_13 C dX6_isNeeded_21 ?_
    refine ww_iconst C dX6_isNeeded_24 ?_
    refine ww_iload_n C dX6_isNeeded_25 1 rfl ?_
    refine ww_imul C dX6_isNeeded_26 ?_
    refine ww_iconst C dX6_isNeeded_27 ?_
    refine ww_iadd C dX6_isNeeded_28 ?_
    refine al_32 C (3 * v + 1) (z := M 32 (3 * v + 1)) (by omega) (by omega) rfl dX6_isNeeded_29 ?_
    refine ww_callS C (As := [.int (iZ (M 32 (3 * v + 1)))]) (ct_X6_absolute w M (M 32 (3 * v + 1)) (by omega)) mf_X6_absolute ml_X6_82 (by decide) rfl rfl (Nat.le_of_ble_eq_true rfl) dX6_isNeeded_30 (fun z_30 M_30 hp_30 => ?_)
    rw [hp_30.1, hp_30.2]
    refine ww_aload_n C dX6_isNeeded_33 0 rfl ?_
    refine gt_X6_7 C dX6_isNeeded_34 ?_
    refine ww_iconst C dX6_isNeeded_37 ?_
    refine al_31 C 1 (z := M 31 1) rfl (by omega) rfl dX6_isNeeded_38 ?_
    refine ww_icmp_ge C 68 dX6_isNeeded_39 (by decide) (by omega) (by omega) (fun c_39 => ?_) (fun c_39 => ?_)
    · refine ww_iconst C dX6_isNeeded_68 ?_
      exact RT _ _ _ _ dX6_isNeeded_69 (⟨by first | exact (b2i_t (by omega)).symm | exact (b2i_f (by omega)).symm, rfl⟩)
    · refine ww_aload_n C dX6_isNeeded_42 0 rfl ?_
      refine gt_X6_13 C dX6_isNeeded_43 ?_
      refine ww_iconst C dX6_isNeeded_46 ?_
      refine ww_iload_n C dX6_isNeeded_47 1 rfl ?_
      refine ww_imul C dX6_isNeeded_48 ?_
      refine ww_iconst C dX6_isNeeded_49 ?_
      refine ww_iadd C dX6_isNeeded_50 ?_
      refine al_32 C (3 * v + 2) (z := M 32 (3 * v + 2)) (by omega) (by omega) rfl dX6_isNeeded_51 ?_
      refine ww_callS C (As := [.int (iZ (M 32 (3 * v + 2)))]) (ct_X6_absolute w M (M 32 (3 * v + 2)) (by omega)) mf_X6_absolute ml_X6_82 (by decide) rfl rfl (Nat.le_of_ble_eq_true rfl) dX6_isNeeded_52 (fun z_52 M_52 hp_52 => ?_)
      rw [hp_52.1, hp_52.2]
      refine ww_aload_n C dX6_isNeeded_55 0 rfl ?_
      refine gt_X6_7 C dX6_isNeeded_56 ?_
      refine ww_iconst C dX6_isNeeded_59 ?_
      refine al_31 C 2 (z := M 31 2) rfl (by omega) rfl dX6_isNeeded_60 ?_
      refine ww_icmp_ge C 68 dX6_isNeeded_61 (by decide) (by omega) (by omega) (fun c_61 => ?_) (fun c_61 => ?_)
      · refine ww_iconst C dX6_isNeeded_68 ?_
        exact RT _ _ _ _ dX6_isNeeded_69 (⟨by first | exact (b2i_t (by omega)).symm | exact (b2i_f (by omega)).symm, rfl⟩)
      · refine ww_iconst C dX6_isNeeded_64 ?_
        refine ww_goto C 69 dX6_isNeeded_65 (by decide) ?_
        exact RT _ _ _ _ dX6_isNeeded_69 (⟨by first | exact (b2i_t (by omega)).symm | exact (b2i_f (by omega)).symm, rfl⟩)
