set_option maxRecDepth 100000 in
set_option maxHeartbeats 4000000 in
theorem ct_X5_isSize (w : WLD) (M : Mem) (a : Int) (h1 : R32 a) : CtI w yX5_isSize cX5_isSize 1 (some .boolean) rm_X5_isSize [.int (iZ a)] M (fun z M1 => z = b2i (1 ≤ a ∧ a ≤ 8) ∧ M1 = M) := by
  refine CtI.ofZ (by decide) (Nat.le_of_ble_eq_true rfl) rfl rfl (fun z M9 h9 => by rw [h9.1]; exact b2i_01 _) ?_
  intro k hkL C RT
  show WW w k 0 [(0, .int (iZ a))] [] M
  refine ww_iload_n C dX5_isSize_0 0 rfl ?_
  refine ww_iconst C dX5_isSize_1 ?_
  refine ww_icmp_lt C 15 dX5_isSize_2 (by decide) (by omega) (by omega) (fun c_2 => ?_) (fun c_2 => ?_)
  · refine ww_iconst C dX5_isSize_15 ?_
    exact RT _ _ _ _ dX5_isSize_16 (⟨by first | exact (b2i_t (by omega)).symm | exact (b2i_f (by omega)).symm, rfl⟩)
  · refine ww_iload_n C dX5_isSize_5 0 rfl ?_
    refine ww_bipush C dX5_isSize_6 (by decide) ?_
    refine ww_icmp_gt C 15 dX5_isSize_8 (by decide) (by omega) (by omega) (fun c_8 => ?_) (fun c_8 => ?_)
    · refine ww_iconst C dX5_isSize_15 ?_
      exact RT _ _ _ _ dX5_isSize_16 (⟨by first | exact (b2i_t (by omega)).symm | exact (b2i_f (by omega)).symm, rfl⟩)
    · refine ww_iconst C dX5_isSize_11 ?_
      refine ww_goto C 16 dX5_isSize_12 (by decide) ?_
      exact RT _ _ _ _ dX5_isSize_16 (⟨by first | exact (b2i_t (by omega)).symm | exact (b2i_f (by omega)).symm, rfl⟩)
set_option maxRecDepth 100000 in
set_option maxHeartbeats 4000000 in
theorem ct_X5_isIndex (w : WLD) (M : Mem) (a : Int) (h1 : R32 a) : CtI w yX5_isIndex cX5_isIndex 1 (some .boolean) rm_X5_isIndex [.int (iZ a)] M (fun z M1 => z = b2i (0 ≤ a ∧ a ≤ 2) ∧ M1 = M) := by
  refine CtI.ofZ (by decide) (Nat.le_of_ble_eq_true rfl) rfl rfl (fun z M9 h9 => by rw [h9.1]; exact b2i_01 _) ?_
  intro k hkL C RT
  show WW w k 0 [(0, .int (iZ a))] [] M
  refine ww_iload_n C dX5_isIndex_0 0 rfl ?_
  refine ww_if_lt C 13 dX5_isIndex_1 (by decide) (by omega) (fun c_1 => ?_) (fun c_1 => ?_)
  · refine ww_iconst C dX5_isIndex_13 ?_
    exact RT _ _ _ _ dX5_isIndex_14 (⟨by first | exact (b2i_t (by omega)).symm | exact (b2i_f (by omega)).symm, rfl⟩)
  · refine ww_iload_n C dX5_isIndex_4 0 rfl ?_
    refine ww_iconst C dX5_isIndex_5 ?_
    refine ww_icmp_gt C 13 dX5_isIndex_6 (by decide) (by omega) (by omega) (fun c_6 => ?_) (fun c_6 => ?_)
    · refine ww_iconst C dX5_isIndex_13 ?_
      exact RT _ _ _ _ dX5_isIndex_14 (⟨by first | exact (b2i_t (by omega)).symm | exact (b2i_f (by omega)).symm, rfl⟩)
    · refine ww_iconst C dX5_isIndex_9 ?_
      refine ww_goto C 14 dX5_isIndex_10 (by decide) ?_
      exact RT _ _ _ _ dX5_isIndex_14 (⟨by first | exact (b2i_t (by omega)).symm | exact (b2i_f (by omega)).symm, rfl⟩)
set_option maxRecDepth 100000 in
set_option maxHeartbeats 4000000 in
theorem ct_X5_within (w : WLD) (M : Mem) (x a b c : Int) (hx : 0 ≤ x ∧ x ≤ 8) (h1 : R32 a) (h2 : R32 b) (h3 : R32 c) : CtI w yX5_within cX5_within 4 (some .boolean) rm_X5_within [.int (iZ x), .int (iZ a), .int (iZ b), .int (iZ c)] M (fun z M1 => z = b2i ((-x ≤ a ∧ a ≤ x) ∧ (-x ≤ b ∧ b ≤ x) ∧ (-x ≤ c ∧ c ≤ x)) ∧ M1 = M) := by
  refine CtI.ofZ (by decide) (Nat.le_of_ble_eq_true rfl) rfl rfl (fun z M9 h9 => by rw [h9.1]; exact b2i_01 _) ?_
  intro k hkL C RT
  show WW w k 0 [(0, .int (iZ x)), (1, .int (iZ a)), (2, .int (iZ b)), (3, .int (iZ c))] [] M
  refine ww_iload_n C dX5_within_0 1 rfl ?_
  refine ww_iload_n C dX5_within_1 0 rfl ?_
  refine ww_ineg C dX5_within_2 ?_
  refine ww_icmp_lt C 37 dX5_within_3 (by decide) (by omega) (by omega) (fun c_3 => ?_) (fun c_3 => ?_)
  · refine ww_iconst C dX5_within_37 ?_
    exact RT _ _ _ _ dX5_within_38 (⟨by first | exact (b2i_t (by omega)).symm | exact (b2i_f (by omega)).symm, rfl⟩)
  · refine ww_iload_n C dX5_within_6 1 rfl ?_
    refine ww_iload_n C dX5_within_7 0 rfl ?_
    refine ww_icmp_gt C 37 dX5_within_8 (by decide) (by omega) (by omega) (fun c_8 => ?_) (fun c_8 => ?_)
    · refine ww_iconst C dX5_within_37 ?_
      exact RT _ _ _ _ dX5_within_38 (⟨by first | exact (b2i_t (by omega)).symm | exact (b2i_f (by omega)).symm, rfl⟩)
    · refine ww_iload_n C dX5_within_11 2 rfl ?_
      refine ww_iload_n C dX5_within_12 0 rfl ?_
      refine ww_ineg C dX5_within_13 ?_
      refine ww_icmp_lt C 37 dX5_within_14 (by decide) (by omega) (by omega) (fun c_14 => ?_) (fun c_14 => ?_)
      · refine ww_iconst C dX5_within_37 ?_
        exact RT _ _ _ _ dX5_within_38 (⟨by first | exact (b2i_t (by omega)).symm | exact (b2i_f (by omega)).symm, rfl⟩)
      · refine ww_iload_n C dX5_within_17 2 rfl ?_
        refine ww_iload_n C dX5_within_18 0 rfl ?_
        refine ww_icmp_gt C 37 dX5_within_19 (by decide) (by omega) (by omega) (fun c_19 => ?_) (fun c_19 => ?_)
        · refine ww_iconst C dX5_within_37 ?_
          exact RT _ _ _ _ dX5_within_38 (⟨by first | exact (b2i_t (by omega)).symm | exact (b2i_f (by omega)).symm, rfl⟩)
        · refine ww_iload_n C dX5_within_22 3 rfl ?_
          refine ww_iload_n C dX5_within_23 0 rfl ?_
          refine ww_ineg C dX5_within_24 ?_
          refine ww_icmp_lt C 37 dX5_within_25 (by decide) (by omega) (by omega) (fun c_25 => ?_) (fun c_25 => ?_)
          · refine ww_iconst C dX5_within_37 ?_
            exact RT _ _ _ _ dX5_within_38 (⟨by first | exact (b2i_t (by omega)).symm | exact (b2i_f (by omega)).symm, rfl⟩)
          · refine ww_iload_n C dX5_within_28 3 rfl ?_
            refine ww_iload_n C dX5_within_29 0 rfl ?_
            refine ww_icmp_gt C 37 dX5_within_30 (by decide) (by omega) (by omega) (fun c_30 => ?_) (fun c_30 => ?_)
            · refine ww_iconst C dX5_within_37 ?_
              exact RT _ _ _ _ dX5_within_38 (⟨by first | exact (b2i_t (by omega)).symm | exact (b2i_f (by omega)).symm, rfl⟩)
            · refine ww_iconst C dX5_within_33 ?_
              refine ww_goto C 38 dX5_within_34 (by decide) ?_
              exact RT _ _ _ _ dX5_within_38 (⟨by first | exact (b2i_t (by omega)).symm | exact (b2i_f (by omega)).symm, rfl⟩)
set_option maxRecDepth 100000 in
set_option maxHeartbeats 4000000 in
theorem ct_X5_areZeros (w : WLD) (M : Mem) (a b c : Int) (h1 : R32 a) (h2 : R32 b) (h3 : R32 c) : CtI w yX5_areZeros cX5_areZeros 3 (some .boolean) rm_X5_areZeros [.int (iZ a), .int (iZ b), .int (iZ c)] M (fun z M1 => z = b2i (a = 0 ∧ b = 0 ∧ c = 0) ∧ M1 = M) := by
  refine CtI.ofZ (by decide) (Nat.le_of_ble_eq_true rfl) rfl rfl (fun z M9 h9 => by rw [h9.1]; exact b2i_01 _) ?_
  intro k hkL C RT
  show WW w k 0 [(0, .int (iZ a)), (1, .int (iZ b)), (2, .int (iZ c))] [] M
  refine ww_iload_n C dX5_areZeros_0 0 rfl ?_
  refine ww_if_ne C 16 dX5_areZeros_1 (by decide) (by omega) (fun c_1 => ?_) (fun c_1 => ?_)
  · refine ww_iconst C dX5_areZeros_16 ?_
    exact RT _ _ _ _ dX5_areZeros_17 (⟨by first | exact (b2i_t (by omega)).symm | exact (b2i_f (by omega)).symm, rfl⟩)
  · refine ww_iload_n C dX5_areZeros_4 1 rfl ?_
    refine ww_if_ne C 16 dX5_areZeros_5 (by decide) (by omega) (fun c_5 => ?_) (fun c_5 => ?_)
    · refine ww_iconst C dX5_areZeros_16 ?_
      exact RT _ _ _ _ dX5_areZeros_17 (⟨by first | exact (b2i_t (by omega)).symm | exact (b2i_f (by omega)).symm, rfl⟩)
    · refine ww_iload_n C dX5_areZeros_8 2 rfl ?_
      refine ww_if_ne C 16 dX5_areZeros_9 (by decide) (by omega) (fun c_9 => ?_) (fun c_9 => ?_)
      · refine ww_iconst C dX5_areZeros_16 ?_
        exact RT _ _ _ _ dX5_areZeros_17 (⟨by first | exact (b2i_t (by omega)).symm | exact (b2i_f (by omega)).symm, rfl⟩)
      · refine ww_iconst C dX5_areZeros_12 ?_
        refine ww_goto C 17 dX5_areZeros_13 (by decide) ?_
        exact RT _ _ _ _ dX5_areZeros_17 (⟨by first | exact (b2i_t (by omega)).symm | exact (b2i_f (by omega)).symm, rfl⟩)
set_option maxRecDepth 100000 in
set_option maxHeartbeats 4000000 in
theorem ct_X5_leadsUp (w : WLD) (M : Mem) (a b c : Int) (h1 : R32 a) (h2 : R32 b) (h3 : R32 c) : CtI w yX5_leadsUp cX5_leadsUp 3 (some .boolean) rm_X5_leadsUp [.int (iZ a), .int (iZ b), .int (iZ c)] M (fun z M1 => z = b2i (0 < a ∨ (a = 0 ∧ (0 < b ∨ (b = 0 ∧ 0 < c)))) ∧ M1 = M) := by
  refine CtI.ofZ (by decide) (Nat.le_of_ble_eq_true rfl) rfl rfl (fun z M9 h9 => by rw [h9.1]; exact b2i_01 _) ?_
  intro k hkL C RT
  show WW w k 0 [(0, .int (iZ a)), (1, .int (iZ b)), (2, .int (iZ c))] [] M
  refine ww_iload_n C dX5_leadsUp_0 0 rfl ?_
  refine ww_if_eq C 14 dX5_leadsUp_1 (by decide) (by omega) (fun c_1 => ?_) (fun c_1 => ?_)
  · refine ww_iload_n C dX5_leadsUp_14 1 rfl ?_
    refine ww_if_eq C 30 dX5_leadsUp_15 (by decide) (by omega) (fun c_15 => ?_) (fun c_15 => ?_)
    · refine ww_iload_n C dX5_leadsUp_30 2 rfl ?_
      refine ww_if_le C 38 dX5_leadsUp_31 (by decide) (by omega) (fun c_31 => ?_) (fun c_31 => ?_)
      · refine ww_iconst C dX5_leadsUp_38 ?_
        exact RT _ _ _ _ dX5_leadsUp_39 (⟨by first | exact (b2i_t (by omega)).symm | exact (b2i_f (by omega)).symm, rfl⟩)
      · refine ww_iconst C dX5_leadsUp_34 ?_
        refine ww_goto C 39 dX5_leadsUp_35 (by decide) ?_
        exact RT _ _ _ _ dX5_leadsUp_39 (⟨by first | exact (b2i_t (by omega)).symm | exact (b2i_f (by omega)).symm, rfl⟩)
    · refine ww_iload_n C dX5_leadsUp_18 1 rfl ?_
      refine ww_if_le C 26 dX5_leadsUp_19 (by decide) (by omega) (fun c_19 => ?_) (fun c_19 => ?_)
      · refine ww_iconst C dX5_leadsUp_26 ?_
        refine ww_goto C 39 dX5_leadsUp_27 (by decide) ?_
        exact RT _ _ _ _ dX5_leadsUp_39 (⟨by first | exact (b2i_t (by omega)).symm | exact (b2i_f (by omega)).symm, rfl⟩)
      · refine ww_iconst C dX5_leadsUp_22 ?_
        refine ww_goto C 39 dX5_leadsUp_23 (by decide) ?_
        exact RT _ _ _ _ dX5_leadsUp_39 (⟨by first | exact (b2i_t (by omega)).symm | exact (b2i_f (by omega)).symm, rfl⟩)
  · refine ww_iload_n C dX5_leadsUp_4 0 rfl ?_
    refine ww_if_le C 12 dX5_leadsUp_5 (by decide) (by omega) (fun c_5 => ?_) (fun c_5 => ?_)
    · refine ww_iconst C dX5_leadsUp_12 ?_
      exact RT _ _ _ _ dX5_leadsUp_13 (⟨by first | exact (b2i_t (by omega)).symm | exact (b2i_f (by omega)).symm, rfl⟩)
    · refine ww_iconst C dX5_leadsUp_8 ?_
      refine ww_goto C 13 dX5_leadsUp_9 (by decide) ?_
      exact RT _ _ _ _ dX5_leadsUp_13 (⟨by first | exact (b2i_t (by omega)).symm | exact (b2i_f (by omega)).symm, rfl⟩)
set_option maxRecDepth 100000 in
set_option maxHeartbeats 4000000 in
theorem ct_X5_isStep (w : WLD) (M : Mem) (a b c : Int) (h1 : R32 a) (h2 : R32 b) (h3 : R32 c) : CtI w yX5_isStep cX5_isStep 3 (some .boolean) rm_X5_isStep [.int (iZ a), .int (iZ b), .int (iZ c)] M (fun z M1 => z = b2i ((-2 ≤ a ∧ a ≤ 2) ∧ (-2 ≤ b ∧ b ≤ 2) ∧ (-2 ≤ c ∧ c ≤ 2) ∧ (0 < a ∨ (a = 0 ∧ (0 < b ∨ (b = 0 ∧ 0 < c))))) ∧ M1 = M) := by
  refine CtI.ofZ (by decide) (Nat.le_of_ble_eq_true rfl) rfl rfl (fun z M9 h9 => by rw [h9.1]; exact b2i_01 _) ?_
  intro k hkL C RT
  show WW w k 0 [(0, .int (iZ a)), (1, .int (iZ b)), (2, .int (iZ c))] [] M
  refine ww_iconst C dX5_isStep_0 ?_
  refine ww_iload_n C dX5_isStep_1 0 rfl ?_
  refine ww_iload_n C dX5_isStep_2 1 rfl ?_
  refine ww_iload_n C dX5_isStep_3 2 rfl ?_
  refine ww_callS C (As := [.int (iZ 2), .int (iZ a), .int (iZ b), .int (iZ c)]) (ct_X5_within w M 2 a b c (by omega) (by omega) (by omega) (by omega)) mf_X5_within ml_X5_90 (by decide) rfl rfl (Nat.le_of_ble_eq_true rfl) dX5_isStep_4 (fun z_4 M_4 hp_4 => ?_)
  rw [hp_4.1, hp_4.2]
  refine ww_ifb_eq C 23 dX5_isStep_7 (by decide) (fun c_7 => ?_) (fun c_7 => ?_)
  · refine ww_iconst C dX5_isStep_23 ?_
    exact RT _ _ _ _ dX5_isStep_24 (⟨by first | exact (b2i_t (by omega)).symm | exact (b2i_f (by omega)).symm, rfl⟩)
  · refine ww_iload_n C dX5_isStep_10 0 rfl ?_
    refine ww_iload_n C dX5_isStep_11 1 rfl ?_
    refine ww_iload_n C dX5_isStep_12 2 rfl ?_
    refine ww_callS C (As := [.int (iZ a), .int (iZ b), .int (iZ c)]) (ct_X5_leadsUp w M a b c (by omega) (by omega) (by omega)) mf_X5_leadsUp ml_X5_210 (by decide) rfl rfl (Nat.le_of_ble_eq_true rfl) dX5_isStep_13 (fun z_13 M_13 hp_13 => ?_)
    rw [hp_13.1, hp_13.2]
    refine ww_ifb_eq C 23 dX5_isStep_16 (by decide) (fun c_16 => ?_) (fun c_16 => ?_)
    · refine ww_iconst C dX5_isStep_23 ?_
      exact RT _ _ _ _ dX5_isStep_24 (⟨by first | exact (b2i_t (by omega)).symm | exact (b2i_f (by omega)).symm, rfl⟩)
    · refine ww_iconst C dX5_isStep_19 ?_
      refine ww_goto C 24 dX5_isStep_20 (by decide) ?_
      exact RT _ _ _ _ dX5_isStep_24 (⟨by first | exact (b2i_t (by omega)).symm | exact (b2i_f (by omega)).symm, rfl⟩)
set_option maxRecDepth 100000 in
set_option maxHeartbeats 4000000 in
theorem ct_X5_forgetPlaces (w : WLD) (M : Mem)  : CtV w yX5_forgetPlaces cX5_forgetPlaces 1 rm_X5_forgetPlaces [.ref (wa w 0)] M (fun M1 => M1 = ups (ups M 12 (up1 (M 12) 3 0)) 25 (up1 (M 25) 0 0)) := by
  refine CtV.of (by decide) (Nat.le_of_ble_eq_true rfl) rfl rfl ?_
  intro k hkL C RT
  show WW w k 0 [(0, .ref (wa w 0))] [] M
  refine ww_aload_n C dX5_forgetPlaces_0 0 rfl ?_
  refine gt_X5_26 C dX5_forgetPlaces_1 ?_
  refine ww_iconst C dX5_forgetPlaces_4 ?_
  refine pt_X5_194 C (by decide) dX5_forgetPlaces_5 ?_
  refine ww_aload_n C dX5_forgetPlaces_8 0 rfl ?_
  refine gt_X5_40 C dX5_forgetPlaces_9 ?_
  refine ww_iconst C dX5_forgetPlaces_12 ?_
  refine pt_X5_63 C (by decide) dX5_forgetPlaces_13 ?_
  refine ww_mem (M1 := ups (ups M 12 (up1 (M 12) 3 0)) 25 (up1 (M 25) 0 0)) rfl ?_
  exact RT _ _ _ dX5_forgetPlaces_16 (rfl)
set_option maxRecDepth 100000 in
set_option maxHeartbeats 4000000 in
theorem ct_X5_sizes (w : WLD) (M : Mem) (a b c : Int) (h1 : R32 a) (h2 : R32 b) (h3 : R32 c) : CtI w yX5_sizes cX5_sizes 4 (some .boolean) rm_X5_sizes [.ref (wa w 0), .int (iZ a), .int (iZ b), .int (iZ c)] M (fun z M1 => (((1 ≤ a ∧ a ≤ 8) ∧ (1 ≤ b ∧ b ≤ 8) ∧ (1 ≤ c ∧ c ≤ 8)) ∧ z = 1 ∧ ∃ (np : Nat) (co : Nat → Int), CdOk (up1 (up1 (up1 (M 2) 0 a) 1 b) 2 c) co np ∧ M1 = ups (ups (ups (ups (ups (ups M 2 (up1 (up1 (up1 (M 2) 0 a) 1 b) 2 c)) 1 (up1 (up1 (M 1) 2 ((np : Nat) : Int)) 10 0)) 3 co) 8 (fil 2048 0 (M 8))) 12 (up1 (M 12) 3 0)) 25 (up1 (M 25) 0 0)) ∨ (¬ ((1 ≤ a ∧ a ≤ 8) ∧ (1 ≤ b ∧ b ≤ 8) ∧ (1 ≤ c ∧ c ≤ 8)) ∧ z = 0 ∧ M1 = M)) := by
  refine CtI.ofZ (by decide) (Nat.le_of_ble_eq_true rfl) rfl rfl (fun z M9 h9 => by rcases h9 with h9 | h9; exact Or.inr h9.2.1; exact Or.inl h9.2.1) ?_
  intro k hkL C RT
  show WW w k 0 [(0, .ref (wa w 0)), (1, .int (iZ a)), (2, .int (iZ b)), (3, .int (iZ c))] [] M
  refine ww_iload_n C dX5_sizes_0 1 rfl ?_
  refine ww_callS C (As := [.int (iZ a)]) (ct_X5_isSize w M a (by omega)) mf_X5_isSize ml_X5_44 (by decide) rfl rfl (Nat.le_of_ble_eq_true rfl) dX5_sizes_1 (fun z_1 M_1 hp_1 => ?_)
  rw [hp_1.1, hp_1.2]
  refine ww_ifb_eq C 21 dX5_sizes_4 (by decide) (fun c_4 => ?_) (fun c_4 => ?_)
  · refine ww_iconst C dX5_sizes_21 ?_
    exact RT _ _ _ _ dX5_sizes_22 (Or.inr ⟨by omega, rfl, rfl⟩)
  · refine ww_iload_n C dX5_sizes_7 2 rfl ?_
    refine ww_callS C (As := [.int (iZ b)]) (ct_X5_isSize w M b (by omega)) mf_X5_isSize ml_X5_44 (by decide) rfl rfl (Nat.le_of_ble_eq_true rfl) dX5_sizes_8 (fun z_8 M_8 hp_8 => ?_)
    rw [hp_8.1, hp_8.2]
    refine ww_ifb_eq C 21 dX5_sizes_11 (by decide) (fun c_11 => ?_) (fun c_11 => ?_)
    · refine ww_iconst C dX5_sizes_21 ?_
      exact RT _ _ _ _ dX5_sizes_22 (Or.inr ⟨by omega, rfl, rfl⟩)
    · refine ww_iload_n C dX5_sizes_14 3 rfl ?_
      refine ww_callS C (As := [.int (iZ c)]) (ct_X5_isSize w M c (by omega)) mf_X5_isSize ml_X5_44 (by decide) rfl rfl (Nat.le_of_ble_eq_true rfl) dX5_sizes_15 (fun z_15 M_15 hp_15 => ?_)
      rw [hp_15.1, hp_15.2]
      refine ww_ifb_ne C 23 dX5_sizes_18 (by decide) (fun c_18 => ?_) (fun c_18 => ?_)
      · refine ww_aload_n C dX5_sizes_23 0 rfl ?_
        refine gt_X5_12 C dX5_sizes_24 ?_
        refine ww_iload_n C dX5_sizes_27 1 rfl ?_
        refine ww_iload_n C dX5_sizes_28 2 rfl ?_
        refine ww_iload_n C dX5_sizes_29 3 rfl ?_
        refine ww_callVV C (As := [.int (iZ a), .int (iZ b), .int (iZ c)]) 1 (by decide) (ct_X4_resize w M a b c (by omega) (by omega) (by omega)) mf_X4_resize ml_X5_48 rfl rfl (by decide) rfl rfl (Nat.le_of_ble_eq_true rfl) dX5_sizes_30 (fun M_30 hp_30 => ?_)
        obtain ⟨np_30, co_30, hcd_30, hm_30⟩ := hp_30
        refine ww_mem (M1 := ups (ups (ups (ups M 2 (up1 (up1 (up1 (M 2) 0 a) 1 b) 2 c)) 1 (up1 (up1 (M 1) 2 ((np_30 : Nat) : Int)) 10 0)) 3 co_30) 8 (fil 2048 0 (M 8))) (hm_30) ?_
        refine ww_aload_n C dX5_sizes_33 0 rfl ?_
        refine ww_callVV C (As := []) 0 (by decide) (ct_X5_forgetPlaces w (ups (ups (ups (ups M 2 (up1 (up1 (up1 (M 2) 0 a) 1 b) 2 c)) 1 (up1 (up1 (M 1) 2 ((np_30 : Nat) : Int)) 10 0)) 3 co_30) 8 (fil 2048 0 (M 8))) ) mf_X5_forgetPlaces ml_X5_52 rfl rfl (by decide) rfl rfl (Nat.le_of_ble_eq_true rfl) dX5_sizes_34 (fun M_34 hp_34 => ?_)
        rw [hp_34]
        refine ww_mem (M1 := ups (ups (ups (ups (ups (ups M 2 (up1 (up1 (up1 (M 2) 0 a) 1 b) 2 c)) 1 (up1 (up1 (M 1) 2 ((np_30 : Nat) : Int)) 10 0)) 3 co_30) 8 (fil 2048 0 (M 8))) 12 (up1 (M 12) 3 0)) 25 (up1 (M 25) 0 0)) rfl ?_
        refine ww_iconst C dX5_sizes_37 ?_
        exact RT _ _ _ _ dX5_sizes_38 (Or.inl ⟨by omega, rfl, np_30, co_30, hcd_30, rfl⟩)
      · refine ww_iconst C dX5_sizes_21 ?_
        exact RT _ _ _ _ dX5_sizes_22 (Or.inr ⟨by omega, rfl, rfl⟩)
set_option maxRecDepth 100000 in
set_option maxHeartbeats 4000000 in
theorem ct_X5_variable (w : WLD) (M : Mem) (v : Nat) (a b c : Int) (h1 : R32 a) (h2 : R32 b) (h3 : R32 c) (hv : M 1 3 = (v : Int)) (hv4 : v ≤ 4) : CtI w yX5_variable cX5_variable 4 (some .int) rm_X5_variable [.ref (wa w 0), .int (iZ a), .int (iZ b), .int (iZ c)] M (fun z M1 => ((((-2 ≤ a ∧ a ≤ 2) ∧ (-2 ≤ b ∧ b ≤ 2) ∧ (-2 ≤ c ∧ c ≤ 2) ∧ (0 < a ∨ (a = 0 ∧ (0 < b ∨ (b = 0 ∧ 0 < c))))) ∧ v < 4) ∧ z = (v : Int) ∧ M1 = ups (ups (ups (ups (ups (ups M 25 (up1 (M 25) 0 0)) 1 (up1 (up1 (M 1) 3 ((v + 1 : Nat) : Int)) 10 0)) 4 (up1 (up1 (up1 (M 4) (3 * v) a) (3 * v + 1) b) (3 * v + 2) c)) 5 (up1 (M 5) v 0)) 6 (up1 (M 6) v 0)) 7 (up1 (M 7) v 0)) ∨ (¬ (((-2 ≤ a ∧ a ≤ 2) ∧ (-2 ≤ b ∧ b ≤ 2) ∧ (-2 ≤ c ∧ c ≤ 2) ∧ (0 < a ∨ (a = 0 ∧ (0 < b ∨ (b = 0 ∧ 0 < c))))) ∧ v < 4) ∧ z = -1 ∧ M1 = M)) := by
  refine CtI.of (by decide) (Nat.le_of_ble_eq_true rfl) rfl rfl ?_
  intro k hkL C RT
  show WW w k 0 [(0, .ref (wa w 0)), (1, .int (iZ a)), (2, .int (iZ b)), (3, .int (iZ c))] [] M
  refine ww_aload_n C dX5_variable_0 0 rfl ?_
  refine gt_X5_12 C dX5_variable_1 ?_
  refine gt_X5_55 C dX5_variable_4 ?_
  refine ww_top (b := ((v : Nat) : Int)) (hv) ?_
  refine ww_iconst C dX5_variable_7 ?_
  refine ww_icmp_ge C 20 dX5_variable_8 (by decide) (by omega) (by omega) (fun c_8 => ?_) (fun c_8 => ?_)
  · refine ww_iconst C dX5_variable_20 ?_
    exact RT _ _ _ _ dX5_variable_21 (by first | exact Or.inr ⟨by omega, rfl, rfl⟩ | exact Or.inl ⟨by omega, rfl, rfl⟩)
  · refine ww_iload_n C dX5_variable_11 1 rfl ?_
    refine ww_iload_n C dX5_variable_12 2 rfl ?_
    refine ww_iload_n C dX5_variable_13 3 rfl ?_
    refine ww_callS C (As := [.int (iZ a), .int (iZ b), .int (iZ c)]) (ct_X5_isStep w M a b c (by omega) (by omega) (by omega)) mf_X5_isStep ml_X5_59 (by decide) rfl rfl (Nat.le_of_ble_eq_true rfl) dX5_variable_14 (fun z_14 M_14 hp_14 => ?_)
    rw [hp_14.1, hp_14.2]
    refine ww_ifb_ne C 22 dX5_variable_17 (by decide) (fun c_17 => ?_) (fun c_17 => ?_)
    · refine ww_aload_n C dX5_variable_22 0 rfl ?_
      refine gt_X5_40 C dX5_variable_23 ?_
      refine ww_iconst C dX5_variable_26 ?_
      refine pt_X5_63 C (by decide) dX5_variable_27 ?_
      refine ww_aload_n C dX5_variable_30 0 rfl ?_
      refine gt_X5_12 C dX5_variable_31 ?_
      refine ww_iload_n C dX5_variable_34 1 rfl ?_
      refine ww_iload_n C dX5_variable_35 2 rfl ?_
      refine ww_iload_n C dX5_variable_36 3 rfl ?_
      refine ww_callV C (As := [.int (iZ a), .int (iZ b), .int (iZ c)]) 1 (by decide) (ct_X4_addVariable w (ups M 25 (up1 (M 25) 0 0)) v a b c (show v < 4 from by omega) (show (M 1) 3 = (v : Int) from hv)) mf_X4_addVariable ml_X5_67 rfl rfl (by decide) rfl rfl (Nat.le_of_ble_eq_true rfl) dX5_variable_37 (fun z_37 M_37 hp_37 => ?_)
      rw [hp_37.1, hp_37.2]
      refine ww_mem (M1 := ups (ups (ups (ups (ups (ups M 25 (up1 (M 25) 0 0)) 1 (up1 (up1 (M 1) 3 ((v + 1 : Nat) : Int)) 10 0)) 4 (up1 (up1 (up1 (M 4) (3 * v) a) (3 * v + 1) b) (3 * v + 2) c)) 5 (up1 (M 5) v 0)) 6 (up1 (M 6) v 0)) 7 (up1 (M 7) v 0)) rfl ?_
      refine ww_top (b := (v : Int)) rfl ?_
      exact RT _ _ _ _ dX5_variable_40 (by first | exact Or.inr ⟨by omega, rfl, rfl⟩ | exact Or.inl ⟨by omega, rfl, rfl⟩)
    · refine ww_iconst C dX5_variable_20 ?_
      exact RT _ _ _ _ dX5_variable_21 (by first | exact Or.inr ⟨by omega, rfl, rfl⟩ | exact Or.inl ⟨by omega, rfl, rfl⟩)
set_option maxRecDepth 100000 in
set_option maxHeartbeats 4000000 in
theorem ct_X5_act (w : WLD) (M : Mem) (v a x y : Int) (h1 : R32 v) (h2 : R32 a) (h3 : R32 x) (h4 : R32 y) (hn : 0 ≤ M 1 3 ∧ M 1 3 ≤ 4) : CtI w yX5_act cX5_act 5 (some .boolean) rm_X5_act [.ref (wa w 0), .int (iZ v), .int (iZ a), .int (iZ x), .int (iZ y)] M (fun z M1 => (((0 ≤ v ∧ v < M 1 3) ∧ (0 ≤ a ∧ a ≤ 7) ∧ (0 ≤ x ∧ x < M 1 3) ∧ (0 ≤ y ∧ y < M 1 3)) ∧ z = 1 ∧ M1 = ups (ups (ups (ups (ups M 5 (up1 (M 5) v.toNat a)) 6 (up1 (M 6) v.toNat x)) 7 (up1 (M 7) v.toNat y)) 1 (up1 (M 1) 10 0)) 25 (up1 (M 25) 0 0)) ∨ (¬ ((0 ≤ v ∧ v < M 1 3) ∧ (0 ≤ a ∧ a ≤ 7) ∧ (0 ≤ x ∧ x < M 1 3) ∧ (0 ≤ y ∧ y < M 1 3)) ∧ z = 0 ∧ M1 = M)) := by
  refine CtI.ofZ (by decide) (Nat.le_of_ble_eq_true rfl) rfl rfl (fun z M9 h9 => by rcases h9 with h9 | h9; exact Or.inr h9.2.1; exact Or.inl h9.2.1) ?_
  intro k hkL C RT
  show WW w k 0 [(0, .ref (wa w 0)), (1, .int (iZ v)), (2, .int (iZ a)), (3, .int (iZ x)), (4, .int (iZ y))] [] M
  refine ww_aload_n C dX5_act_0 0 rfl ?_
  refine gt_X5_12 C dX5_act_1 ?_
  refine ww_iload_n C dX5_act_4 1 rfl ?_
  refine ww_callV C (As := [.int (iZ v)]) 1 (by decide) (ct_X4_has w M v (by omega) (by omega)) mf_X4_has ml_X5_71 rfl rfl (by decide) rfl rfl (Nat.le_of_ble_eq_true rfl) dX5_act_5 (fun z_5 M_5 hp_5 => ?_)
  rw [hp_5.1, hp_5.2]
  refine ww_ifb_eq C 44 dX5_act_8 (by decide) (fun c_8 => ?_) (fun c_8 => ?_)
  · refine ww_iconst C dX5_act_44 ?_
    exact RT _ _ _ _ dX5_act_45 (by first | exact Or.inr ⟨by omega, rfl, rfl⟩ | exact Or.inl ⟨by omega, rfl, rfl⟩)
  · refine ww_aload_n C dX5_act_11 0 rfl ?_
    refine gt_X5_12 C dX5_act_12 ?_
    refine ww_iload_n C dX5_act_15 3 rfl ?_
    refine ww_callV C (As := [.int (iZ x)]) 1 (by decide) (ct_X4_has w M x (by omega) (by omega)) mf_X4_has ml_X5_71 rfl rfl (by decide) rfl rfl (Nat.le_of_ble_eq_true rfl) dX5_act_16 (fun z_16 M_16 hp_16 => ?_)
    rw [hp_16.1, hp_16.2]
    refine ww_ifb_eq C 44 dX5_act_19 (by decide) (fun c_19 => ?_) (fun c_19 => ?_)
    · refine ww_iconst C dX5_act_44 ?_
      exact RT _ _ _ _ dX5_act_45 (by first | exact Or.inr ⟨by omega, rfl, rfl⟩ | exact Or.inl ⟨by omega, rfl, rfl⟩)
    · refine ww_aload_n C dX5_act_22 0 rfl ?_
      refine gt_X5_12 C dX5_act_23 ?_
      refine ww_iload C dX5_act_26 4 rfl ?_
      refine ww_callV C (As := [.int (iZ y)]) 1 (by decide) (ct_X4_has w M y (by omega) (by omega)) mf_X4_has ml_X5_71 rfl rfl (by decide) rfl rfl (Nat.le_of_ble_eq_true rfl) dX5_act_28 (fun z_28 M_28 hp_28 => ?_)
      rw [hp_28.1, hp_28.2]
      refine ww_ifb_eq C 44 dX5_act_31 (by decide) (fun c_31 => ?_) (fun c_31 => ?_)
      · refine ww_iconst C dX5_act_44 ?_
        exact RT _ _ _ _ dX5_act_45 (by first | exact Or.inr ⟨by omega, rfl, rfl⟩ | exact Or.inl ⟨by omega, rfl, rfl⟩)
      · refine ww_iload_n C dX5_act_34 2 rfl ?_
        refine ww_if_lt C 44 dX5_act_35 (by decide) (by omega) (fun c_35 => ?_) (fun c_35 => ?_)
        · refine ww_iconst C dX5_act_44 ?_
          exact RT _ _ _ _ dX5_act_45 (by first | exact Or.inr ⟨by omega, rfl, rfl⟩ | exact Or.inl ⟨by omega, rfl, rfl⟩)
        · refine ww_iload_n C dX5_act_38 2 rfl ?_
          refine ww_bipush C dX5_act_39 (by decide) ?_
          refine ww_icmp_lt C 46 dX5_act_41 (by decide) (by omega) (by omega) (fun c_41 => ?_) (fun c_41 => ?_)
          · refine ww_aload_n C dX5_act_46 0 rfl ?_
            refine gt_X5_12 C dX5_act_47 ?_
            refine ww_iload_n C dX5_act_50 1 rfl ?_
            refine ww_top (b := ((v.toNat : Nat) : Int)) (by omega) ?_
            refine ww_iload_n C dX5_act_51 2 rfl ?_
            refine ww_iload_n C dX5_act_52 3 rfl ?_
            refine ww_iload C dX5_act_53 4 rfl ?_
            refine ww_callVV C (As := [.int (iZ ((v.toNat : Nat) : Int)), .int (iZ a), .int (iZ x), .int (iZ y)]) 1 (by decide) (ct_X4_setAct w M v.toNat a x y (by omega)) mf_X4_setAct ml_X5_74 rfl rfl (by decide) rfl rfl (Nat.le_of_ble_eq_true rfl) dX5_act_55 (fun M_55 hp_55 => ?_)
            rw [hp_55]
            refine ww_mem (M1 := ups (ups (ups (ups M 5 (up1 (M 5) v.toNat a)) 6 (up1 (M 6) v.toNat x)) 7 (up1 (M 7) v.toNat y)) 1 (up1 (M 1) 10 0)) rfl ?_
            refine ww_aload_n C dX5_act_58 0 rfl ?_
            refine gt_X5_40 C dX5_act_59 ?_
            refine ww_iconst C dX5_act_62 ?_
            refine pt_X5_63 C (by decide) dX5_act_63 ?_
            refine ww_mem (M1 := ups (ups (ups (ups (ups M 5 (up1 (M 5) v.toNat a)) 6 (up1 (M 6) v.toNat x)) 7 (up1 (M 7) v.toNat y)) 1 (up1 (M 1) 10 0)) 25 (up1 (M 25) 0 0)) rfl ?_
            refine ww_iconst C dX5_act_66 ?_
            exact RT _ _ _ _ dX5_act_67 (by first | exact Or.inr ⟨by omega, rfl, rfl⟩ | exact Or.inl ⟨by omega, rfl, rfl⟩)
          · refine ww_iconst C dX5_act_44 ?_
            exact RT _ _ _ _ dX5_act_45 (by first | exact Or.inr ⟨by omega, rfl, rfl⟩ | exact Or.inl ⟨by omega, rfl, rfl⟩)
set_option maxRecDepth 100000 in
set_option maxHeartbeats 4000000 in
theorem ct_X5_edge (w : WLD) (M : Mem) (v i j l x : Int) (h1 : R32 v) (h2 : R32 i) (h3 : R32 j) (h4 : R32 l) (hn : 0 ≤ M 1 3 ∧ M 1 3 ≤ 4) (hs : SzOk (M 2)) : CtI w yX5_edge cX5_edge 7 (some .boolean) rm_X5_edge [.ref (wa w 0), .int (iZ v), .int (iZ i), .int (iZ j), .int (iZ l), .int (iZ x)] M (fun z M1 => (((0 ≤ v ∧ v < M 1 3) ∧ ((0 ≤ i ∧ i < M 2 0) ∧ (0 ≤ j ∧ j < M 2 1) ∧ (0 ≤ l ∧ l < M 2 2))) ∧ z = 1 ∧ M1 = ups (ups (ups M 8 (up1 (M 8) (512 * v + (64 * i + 8 * j + l)).toNat x)) 1 (up1 (M 1) 10 0)) 25 (up1 (M 25) 0 0)) ∨ (¬ ((0 ≤ v ∧ v < M 1 3) ∧ ((0 ≤ i ∧ i < M 2 0) ∧ (0 ≤ j ∧ j < M 2 1) ∧ (0 ≤ l ∧ l < M 2 2))) ∧ z = 0 ∧ M1 = M)) := by
  refine CtI.ofZ (by decide) (Nat.le_of_ble_eq_true rfl) rfl rfl (fun z M9 h9 => by rcases h9 with h9 | h9; exact Or.inr h9.2.1; exact Or.inl h9.2.1) ?_
  intro k hkL C RT
  have hcb := codeZ_b (sz := M 2) (i := i) (j := j) (k := l) hs
  have hcz : (((0 ≤ i ∧ i < M 2 0) ∧ (0 ≤ j ∧ j < M 2 1) ∧ (0 ≤ l ∧ l < M 2 2)) ∧ codeZ (M 2) i j l = 64 * i + 8 * j + l) ∨ (¬ ((0 ≤ i ∧ i < M 2 0) ∧ (0 ≤ j ∧ j < M 2 1) ∧ (0 ≤ l ∧ l < M 2 2)) ∧ codeZ (M 2) i j l = -1) := by unfold codeZ; split <;> omega
  show WW w k 0 [(0, .ref (wa w 0)), (1, .int (iZ v)), (2, .int (iZ i)), (3, .int (iZ j)), (4, .int (iZ l)), (5, .int (iZ x))] [] M
  refine ww_aload_n C dX5_edge_0 0 rfl ?_
  refine gt_X5_12 C dX5_edge_1 ?_
  refine ww_iload_n C dX5_edge_4 2 rfl ?_
  refine ww_iload_n C dX5_edge_5 3 rfl ?_
  refine ww_iload C dX5_edge_6 4 rfl ?_
  refine ww_callV C (As := [.int (iZ i), .int (iZ j), .int (iZ l)]) 1 (by decide) (ct_X4_codeOf w M i j l (by omega) (by omega) (by omega) (hs)) mf_X4_codeOf ml_X5_78 rfl rfl (by decide) rfl rfl (Nat.le_of_ble_eq_true rfl) dX5_edge_8 (fun z_8 M_8 hp_8 => ?_)
  rw [hp_8.1, hp_8.2]
  refine ww_istore C dX5_edge_11 (lv' := [(6, .int (iZ (codeZ ((M 2)) i j l))), (0, .ref (wa w 0)), (1, .int (iZ v)), (2, .int (iZ i)), (3, .int (iZ j)), (4, .int (iZ l)), (5, .int (iZ x))]) (by rw [hkL]; decide) rfl ?_
  refine ww_aload_n C dX5_edge_13 1 rfl ?_
  refine gt_X5_12 C dX5_edge_14 ?_
  refine ww_iload_n C dX5_edge_17 2 rfl ?_
  refine ww_callV C (As := [.int (iZ v)]) 1 (by decide) (ct_X4_has w M v (by omega) (by omega)) mf_X4_has ml_X5_71 rfl rfl (by decide) rfl rfl (Nat.le_of_ble_eq_true rfl) dX5_edge_18 (fun z_18 M_18 hp_18 => ?_)
  rw [hp_18.1, hp_18.2]
  refine ww_ifb_eq C 30 dX5_edge_21 (by decide) (fun c_21 => ?_) (fun c_21 => ?_)
  · refine ww_iconst C dX5_edge_30 ?_
    exact RT _ _ _ _ dX5_edge_31 (Or.inr ⟨by omega, rfl, rfl⟩)
  · refine ww_iload C dX5_edge_24 0 rfl ?_
    refine ww_iconst C dX5_edge_26 ?_
    refine ww_icmp_ne C 32 dX5_edge_27 (by decide) (by omega) (by omega) (fun c_27 => ?_) (fun c_27 => ?_)
    · refine ww_aload_n C dX5_edge_32 1 rfl ?_
      refine gt_X5_12 C dX5_edge_33 ?_
      refine ww_iload_n C dX5_edge_36 2 rfl ?_
      refine ww_top (b := ((v.toNat : Nat) : Int)) (by omega) ?_
      refine ww_iload C dX5_edge_37 0 rfl ?_
      refine ww_top (b := (((64 * i + 8 * j + l).toNat : Nat) : Int)) (by omega) ?_
      refine ww_iload C dX5_edge_39 6 rfl ?_
      refine ww_callVV C (As := [.int (iZ ((v.toNat : Nat) : Int)), .int (iZ (((64 * i + 8 * j + l).toNat : Nat) : Int)), .int (iZ x)]) 1 (by decide) (ct_X4_setEdge w M v.toNat ((64 * i + 8 * j + l).toNat) x (by omega) (by omega)) mf_X4_setEdge ml_X5_81 rfl rfl (by decide) rfl rfl (Nat.le_of_ble_eq_true rfl) dX5_edge_41 (fun M_41 hp_41 => ?_)
      rw [hp_41]
      refine ww_mem (M1 := ups (ups M 8 (up1 (M 8) (512 * v.toNat + ((64 * i + 8 * j + l).toNat)) x)) 1 (up1 (M 1) 10 0)) rfl ?_
      refine ww_mem (M1 := ups (ups M 8 (up1 (M 8) (512 * v + (64 * i + 8 * j + l)).toNat x)) 1 (up1 (M 1) 10 0)) (by rw [show 512 * v.toNat + (64 * i + 8 * j + l).toNat = (512 * v + (64 * i + 8 * j + l)).toNat by omega]) ?_
      refine ww_aload_n C dX5_edge_44 1 rfl ?_
      refine gt_X5_40 C dX5_edge_45 ?_
      refine ww_iconst C dX5_edge_48 ?_
      refine pt_X5_63 C (by decide) dX5_edge_49 ?_
      refine ww_mem (M1 := ups (ups (ups M 8 (up1 (M 8) (512 * v + (64 * i + 8 * j + l)).toNat x)) 1 (up1 (M 1) 10 0)) 25 (up1 (M 25) 0 0)) rfl ?_
      refine ww_iconst C dX5_edge_52 ?_
      exact RT _ _ _ _ dX5_edge_53 (Or.inl ⟨by omega, rfl, rfl⟩)
    · refine ww_iconst C dX5_edge_30 ?_
      exact RT _ _ _ _ dX5_edge_31 (Or.inr ⟨by omega, rfl, rfl⟩)
set_option maxRecDepth 100000 in
set_option maxHeartbeats 4000000 in
theorem ct_X5_clear (w : WLD) (M : Mem)  : CtV w yX5_clear cX5_clear 1 rm_X5_clear [.ref (wa w 0)] M (fun M1 => M1 = ups (ups (ups M 1 (up1 (up1 (M 1) 3 0) 10 0)) 8 (fil 2048 0 (M 8))) 25 (up1 (M 25) 0 0)) := by
  refine CtV.of (by decide) (Nat.le_of_ble_eq_true rfl) rfl rfl ?_
  intro k hkL C RT
  show WW w k 0 [(0, .ref (wa w 0))] [] M
  refine ww_aload_n C dX5_clear_0 0 rfl ?_
  refine gt_X5_12 C dX5_clear_1 ?_
  refine ww_callVV C (As := []) 1 (by decide) (ct_X4_dropVariables w M ) mf_X4_dropVariables ml_X5_84 rfl rfl (by decide) rfl rfl (Nat.le_of_ble_eq_true rfl) dX5_clear_4 (fun M_4 hp_4 => ?_)
  rw [hp_4]
  refine ww_mem (M1 := ups (ups M 1 (up1 (up1 (M 1) 3 0) 10 0)) 8 (fil 2048 0 ((M 8)))) rfl ?_
  refine ww_aload_n C dX5_clear_7 0 rfl ?_
  refine gt_X5_40 C dX5_clear_8 ?_
  refine ww_iconst C dX5_clear_11 ?_
  refine pt_X5_63 C (by decide) dX5_clear_12 ?_
  refine ww_mem (M1 := ups (ups (ups M 1 (up1 (up1 (M 1) 3 0) 10 0)) 8 (fil 2048 0 ((M 8)))) 25 (up1 (M 25) 0 0)) rfl ?_
  exact RT _ _ _ dX5_clear_15 (rfl)
set_option maxRecDepth 100000 in
set_option maxHeartbeats 4000000 in
theorem ct_X5_lay (w : WLD) (M : Mem) (q a b c : Int) (h0 : R32 q) (h1 : R32 a) (h2 : R32 b) (h3 : R32 c) : CtI w yX5_lay cX5_lay 5 (some .boolean) rm_X5_lay [.ref (wa w 0), .int (iZ q), .int (iZ a), .int (iZ b), .int (iZ c)] M (fun z M1 => (((0 ≤ q ∧ q ≤ 2) ∧ (-3 ≤ a ∧ a ≤ 3) ∧ (-3 ≤ b ∧ b ≤ 3) ∧ (-3 ≤ c ∧ c ≤ 3) ∧ ¬ (q = 1 ∧ a = 0 ∧ b = 0 ∧ c = 0)) ∧ z = 1 ∧ M1 = ups (ups (ups M 11 (up1 (up1 (up1 (M 11) (3 * q).toNat a) (3 * q + 1).toNat b) (3 * q + 2).toNat c)) 12 (up1 (M 12) 3 0)) 25 (up1 (M 25) 0 0)) ∨ (¬ ((0 ≤ q ∧ q ≤ 2) ∧ (-3 ≤ a ∧ a ≤ 3) ∧ (-3 ≤ b ∧ b ≤ 3) ∧ (-3 ≤ c ∧ c ≤ 3) ∧ ¬ (q = 1 ∧ a = 0 ∧ b = 0 ∧ c = 0)) ∧ z = 0 ∧ M1 = M)) := by
  refine CtI.ofZ (by decide) (Nat.le_of_ble_eq_true rfl) rfl rfl (fun z M9 h9 => by rcases h9 with h9 | h9; exact Or.inr h9.2.1; exact Or.inl h9.2.1) ?_
  intro k hkL C RT
  show WW w k 0 [(0, .ref (wa w 0)), (1, .int (iZ q)), (2, .int (iZ a)), (3, .int (iZ b)), (4, .int (iZ c))] [] M
  refine ww_iload_n C dX5_lay_0 1 rfl ?_
  refine ww_callS C (As := [.int (iZ q)]) (ct_X5_isIndex w M q (by omega)) mf_X5_isIndex ml_X5_87 (by decide) rfl rfl (Nat.le_of_ble_eq_true rfl) dX5_lay_1 (fun z_1 M_1 hp_1 => ?_)
  rw [hp_1.1, hp_1.2]
  refine ww_ifb_eq C 18 dX5_lay_4 (by decide) (fun c_4 => ?_) (fun c_4 => ?_)
  · refine ww_iconst C dX5_lay_18 ?_
    exact RT _ _ _ _ dX5_lay_19 (by first | exact Or.inr ⟨by omega, rfl, rfl⟩ | exact Or.inl ⟨by omega, rfl, rfl⟩)
  · refine ww_iconst C dX5_lay_7 ?_
    refine ww_iload_n C dX5_lay_8 2 rfl ?_
    refine ww_iload_n C dX5_lay_9 3 rfl ?_
    refine ww_iload C dX5_lay_10 4 rfl ?_
    refine ww_callS C (As := [.int (iZ 3), .int (iZ a), .int (iZ b), .int (iZ c)]) (ct_X5_within w M 3 a b c (by omega) (by omega) (by omega) (by omega)) mf_X5_within ml_X5_90 (by decide) rfl rfl (Nat.le_of_ble_eq_true rfl) dX5_lay_12 (fun z_12 M_12 hp_12 => ?_)
    rw [hp_12.1, hp_12.2]
    refine ww_ifb_ne C 20 dX5_lay_15 (by decide) (fun c_15 => ?_) (fun c_15 => ?_)
    · refine ww_iload_n C dX5_lay_20 1 rfl ?_
      refine ww_iconst C dX5_lay_21 ?_
      refine ww_icmp_ne C 37 dX5_lay_22 (by decide) (by omega) (by omega) (fun c_22 => ?_) (fun c_22 => ?_)
      · refine ww_aload_n C dX5_lay_37 0 rfl ?_
        refine gt_X5_19 C dX5_lay_38 ?_
        refine ww_iload_n C dX5_lay_41 1 rfl ?_
        refine ww_top (b := ((q.toNat : Nat) : Int)) (by omega) ?_
        refine ww_iload_n C dX5_lay_42 2 rfl ?_
        refine ww_iload_n C dX5_lay_43 3 rfl ?_
        refine ww_iload C dX5_lay_44 4 rfl ?_
        refine ww_callVV C (As := [.int (iZ ((q.toNat : Nat) : Int)), .int (iZ a), .int (iZ b), .int (iZ c)]) 10 (pl_lt (Or.inl rfl)) (ct_X1_put w M 10 q.toNat a b c (Or.inl rfl) (by omega)) mf_X1_put ml_X5_97 (pl_cell (Or.inl rfl) _) rfl (by decide) rfl rfl (Nat.le_of_ble_eq_true rfl) dX5_lay_46 (fun M_46 hp_46 => ?_)
        rw [hp_46]
        refine ww_mem (M1 := ups M (10 + 1) (up1 (up1 (up1 (M (10 + 1)) (3 * q.toNat) a) (3 * q.toNat + 1) b) (3 * q.toNat + 2) c)) rfl ?_
        refine ww_mem (M1 := ups M 11 (up1 (up1 (up1 (M 11) (3 * q).toNat a) (3 * q + 1).toNat b) (3 * q + 2).toNat c)) (by rw [show 3 * q.toNat = (3 * q).toNat by omega, show (3 * q).toNat + 1 = (3 * q + 1).toNat by omega, show (3 * q).toNat + 2 = (3 * q + 2).toNat by omega]) ?_
        refine ww_aload_n C dX5_lay_49 0 rfl ?_
        refine ww_callVV C (As := []) 0 (by decide) (ct_X5_forgetPlaces w (ups M 11 (up1 (up1 (up1 (M 11) (3 * q).toNat a) (3 * q + 1).toNat b) (3 * q + 2).toNat c)) ) mf_X5_forgetPlaces ml_X5_52 rfl rfl (by decide) rfl rfl (Nat.le_of_ble_eq_true rfl) dX5_lay_50 (fun M_50 hp_50 => ?_)
        rw [hp_50]
        refine ww_mem (M1 := ups (ups (ups M 11 (up1 (up1 (up1 (M 11) (3 * q).toNat a) (3 * q + 1).toNat b) (3 * q + 2).toNat c)) 12 (up1 (M 12) 3 0)) 25 (up1 (M 25) 0 0)) rfl ?_
        refine ww_iconst C dX5_lay_53 ?_
        exact RT _ _ _ _ dX5_lay_54 (by first | exact Or.inr ⟨by omega, rfl, rfl⟩ | exact Or.inl ⟨by omega, rfl, rfl⟩)
      · refine ww_iload_n C dX5_lay_25 2 rfl ?_
        refine ww_iload_n C dX5_lay_26 3 rfl ?_
        refine ww_iload C dX5_lay_27 4 rfl ?_
        refine ww_callS C (As := [.int (iZ a), .int (iZ b), .int (iZ c)]) (ct_X5_areZeros w M a b c (by omega) (by omega) (by omega)) mf_X5_areZeros ml_X5_94 (by decide) rfl rfl (Nat.le_of_ble_eq_true rfl) dX5_lay_29 (fun z_29 M_29 hp_29 => ?_)
        rw [hp_29.1, hp_29.2]
        refine ww_ifb_eq C 37 dX5_lay_32 (by decide) (fun c_32 => ?_) (fun c_32 => ?_)
        · refine ww_aload_n C dX5_lay_37 0 rfl ?_
          refine gt_X5_19 C dX5_lay_38 ?_
          refine ww_iload_n C dX5_lay_41 1 rfl ?_
          refine ww_top (b := ((q.toNat : Nat) : Int)) (by omega) ?_
          refine ww_iload_n C dX5_lay_42 2 rfl ?_
          refine ww_iload_n C dX5_lay_43 3 rfl ?_
          refine ww_iload C dX5_lay_44 4 rfl ?_
          refine ww_callVV C (As := [.int (iZ ((q.toNat : Nat) : Int)), .int (iZ a), .int (iZ b), .int (iZ c)]) 10 (pl_lt (Or.inl rfl)) (ct_X1_put w M 10 q.toNat a b c (Or.inl rfl) (by omega)) mf_X1_put ml_X5_97 (pl_cell (Or.inl rfl) _) rfl (by decide) rfl rfl (Nat.le_of_ble_eq_true rfl) dX5_lay_46 (fun M_46 hp_46 => ?_)
          rw [hp_46]
          refine ww_mem (M1 := ups M (10 + 1) (up1 (up1 (up1 (M (10 + 1)) (3 * q.toNat) a) (3 * q.toNat + 1) b) (3 * q.toNat + 2) c)) rfl ?_
          refine ww_mem (M1 := ups M 11 (up1 (up1 (up1 (M 11) (3 * q).toNat a) (3 * q + 1).toNat b) (3 * q + 2).toNat c)) (by rw [show 3 * q.toNat = (3 * q).toNat by omega, show (3 * q).toNat + 1 = (3 * q + 1).toNat by omega, show (3 * q).toNat + 2 = (3 * q + 2).toNat by omega]) ?_
          refine ww_aload_n C dX5_lay_49 0 rfl ?_
          refine ww_callVV C (As := []) 0 (by decide) (ct_X5_forgetPlaces w (ups M 11 (up1 (up1 (up1 (M 11) (3 * q).toNat a) (3 * q + 1).toNat b) (3 * q + 2).toNat c)) ) mf_X5_forgetPlaces ml_X5_52 rfl rfl (by decide) rfl rfl (Nat.le_of_ble_eq_true rfl) dX5_lay_50 (fun M_50 hp_50 => ?_)
          rw [hp_50]
          refine ww_mem (M1 := ups (ups (ups M 11 (up1 (up1 (up1 (M 11) (3 * q).toNat a) (3 * q + 1).toNat b) (3 * q + 2).toNat c)) 12 (up1 (M 12) 3 0)) 25 (up1 (M 25) 0 0)) rfl ?_
          refine ww_iconst C dX5_lay_53 ?_
          exact RT _ _ _ _ dX5_lay_54 (by first | exact Or.inr ⟨by omega, rfl, rfl⟩ | exact Or.inl ⟨by omega, rfl, rfl⟩)
        · refine ww_iconst C dX5_lay_35 ?_
          exact RT _ _ _ _ dX5_lay_36 (by first | exact Or.inr ⟨by omega, rfl, rfl⟩ | exact Or.inl ⟨by omega, rfl, rfl⟩)
    · refine ww_iconst C dX5_lay_18 ?_
      exact RT _ _ _ _ dX5_lay_19 (by first | exact Or.inr ⟨by omega, rfl, rfl⟩ | exact Or.inl ⟨by omega, rfl, rfl⟩)
set_option maxRecDepth 100000 in
set_option maxHeartbeats 4000000 in
theorem ct_X5_fold (w : WLD) (M : Mem) (f : Int) (h1 : R32 f) : CtI w yX5_fold cX5_fold 2 (some .boolean) rm_X5_fold [.ref (wa w 0), .int (iZ f)] M (fun z M1 => ((1 ≤ f ∧ f ≤ 8) ∧ z = 1 ∧ M1 = ups (ups (ups M 10 (up1 (M 10) 1 f)) 12 (up1 (M 12) 3 0)) 25 (up1 (M 25) 0 0)) ∨ (¬ (1 ≤ f ∧ f ≤ 8) ∧ z = 0 ∧ M1 = M)) := by
  refine CtI.ofZ (by decide) (Nat.le_of_ble_eq_true rfl) rfl rfl (fun z M9 h9 => by rcases h9 with h9 | h9; exact Or.inr h9.2.1; exact Or.inl h9.2.1) ?_
  intro k hkL C RT
  show WW w k 0 [(0, .ref (wa w 0)), (1, .int (iZ f))] [] M
  refine ww_iload_n C dX5_fold_0 1 rfl ?_
  refine ww_iconst C dX5_fold_1 ?_
  refine ww_icmp_lt C 11 dX5_fold_2 (by decide) (by omega) (by omega) (fun c_2 => ?_) (fun c_2 => ?_)
  · refine ww_iconst C dX5_fold_11 ?_
    exact RT _ _ _ _ dX5_fold_12 (by first | exact Or.inr ⟨by omega, rfl, rfl⟩ | exact Or.inl ⟨by omega, rfl, rfl⟩)
  · refine ww_iload_n C dX5_fold_5 1 rfl ?_
    refine ww_bipush C dX5_fold_6 (by decide) ?_
    refine ww_icmp_le C 13 dX5_fold_8 (by decide) (by omega) (by omega) (fun c_8 => ?_) (fun c_8 => ?_)
    · refine ww_aload_n C dX5_fold_13 0 rfl ?_
      refine gt_X5_19 C dX5_fold_14 ?_
      refine ww_iload_n C dX5_fold_17 1 rfl ?_
      refine pt_X5_100 C (Or.inl rfl) dX5_fold_18 ?_
      refine ww_aload_n C dX5_fold_21 0 rfl ?_
      refine ww_callVV C (As := []) 0 (by decide) (ct_X5_forgetPlaces w (ups M 10 (up1 (M 10) 1 f)) ) mf_X5_forgetPlaces ml_X5_52 rfl rfl (by decide) rfl rfl (Nat.le_of_ble_eq_true rfl) dX5_fold_22 (fun M_22 hp_22 => ?_)
      rw [hp_22]
      refine ww_mem (M1 := ups (ups (ups M 10 (up1 (M 10) 1 f)) 12 (up1 (M 12) 3 0)) 25 (up1 (M 25) 0 0)) rfl ?_
      refine ww_iconst C dX5_fold_25 ?_
      exact RT _ _ _ _ dX5_fold_26 (by first | exact Or.inr ⟨by omega, rfl, rfl⟩ | exact Or.inl ⟨by omega, rfl, rfl⟩)
    · refine ww_iconst C dX5_fold_11 ?_
      exact RT _ _ _ _ dX5_fold_12 (by first | exact Or.inr ⟨by omega, rfl, rfl⟩ | exact Or.inl ⟨by omega, rfl, rfl⟩)
set_option maxRecDepth 100000 in
set_option maxHeartbeats 4000000 in
theorem ct_X5_settle (w : WLD) (M : Mem) (nv np : Nat) (hI : CInv M nv np) : CtV w yX5_settle cX5_settle 1 rm_X5_settle [.ref (wa w 0)] M (fun M1 => setS M M1 nv np ∧ M1 12 3 = 1) := by
  refine CtV.of (by decide) (Nat.le_of_ble_eq_true rfl) rfl rfl ?_
  intro k hkL C RT
  obtain ⟨hs, hnv, hn4, hnp, hcd, hst, hac, hlf, hrt, hed, har9, hvk, hVk, hld, hnu, hf, h11, h21, h23, hkn, hpl, hl0, hb0, hb5, hth, hrn, har26, hb25⟩ := id hI
  show WW w k 0 [(0, .ref (wa w 0))] [] M
  refine ww_aload_n C dX5_settle_0 0 rfl ?_
  refine gt_X5_26 C dX5_settle_1 ?_
  refine gt_X5_194 C dX5_settle_4 ?_
  refine ww_if_ne C 25 dX5_settle_7 (by decide) (by omega) (fun c_7 => ?_) (fun c_7 => ?_)
  · exact RT _ _ _ dX5_settle_25 (by first | exact ⟨setS_rf hI, by omega⟩ | exact ⟨set_pl hI (by omega) hpl_22 hls_22 hm_22, by rw [hm_22]; rfl⟩)
  · refine ww_aload_n C dX5_settle_10 0 rfl ?_
    refine gt_X5_26 C dX5_settle_11 ?_
    refine ww_aload_n C dX5_settle_14 0 rfl ?_
    refine gt_X5_12 C dX5_settle_15 ?_
    refine ww_aload_n C dX5_settle_18 0 rfl ?_
    refine gt_X5_19 C dX5_settle_19 ?_
    refine ww_callVV C (As := [.ref (wa w 1), .ref (wa w 10)]) 12 (by decide) (ct_X0_place w M np (hf) (hnu) (hs) (hnp) (hcd) (hl0)) mf_X0_place ml_X5_197 rfl rfl (by decide) rfl rfl (Nat.le_of_ble_eq_true rfl) dX5_settle_22 (fun M_22 hp_22 => ?_)
    obtain ⟨be_22, ce_22, se_22, ah_22, ls_22, bts_22, cls_22, la_22, ea_22, hpl_22, hls_22, hm_22⟩ := hp_22
    exact RT _ _ _ dX5_settle_25 (by first | exact ⟨setS_rf hI, by omega⟩ | exact ⟨set_pl hI (by omega) hpl_22 hls_22 hm_22, by rw [hm_22]; rfl⟩)
set_option maxRecDepth 100000 in
set_option maxHeartbeats 4000000 in
theorem ct_X5_reason (w : WLD) (M : Mem) (nv np : Nat) (hI : CInv M nv np) : CtI w yX5_reason cX5_reason 1 (some .int) rm_X5_reason [.ref (wa w 0)] M (fun z M1 => reaR (M 11) (M 2) (M 4) nv M1 z ∧ setS M M1 nv np) := by
  refine CtI.of (by decide) (Nat.le_of_ble_eq_true rfl) rfl rfl ?_
  intro k hkL C RT
  obtain ⟨hs, hnv, hn4, hnp, hcd, hst, hac, hlf, hrt, hed, har9, hvk, hVk, hld, hnu, hf, h11, h21, h23, hkn, hpl, hl0, hb0, hb5, hth, hrn, har26, hb25⟩ := id hI
  show WW w k 0 [(0, .ref (wa w 0))] [] M
  refine ww_aload_n C dX5_reason_0 0 rfl ?_
  refine gt_X5_19 C dX5_reason_1 ?_
  refine ww_aload_n C dX5_reason_4 0 rfl ?_
  refine gt_X5_12 C dX5_reason_5 ?_
  refine ww_callV C (As := [.ref (wa w 1)]) 10 (pl_lt (Or.inl rfl)) (ct_X1_tooEarly w M 10 nv (Or.inl rfl) (hnu) (hnv) (hn4) (hs) (hst)) mf_X1_tooEarly ml_X5_201 (pl_cell (Or.inl rfl) _) rfl (by decide) rfl rfl (Nat.le_of_ble_eq_true rfl) dX5_reason_8 (fun z_8 M_8 hp_8 => ?_)
  obtain ⟨hf_8, hm_8⟩ := hp_8
  have r8 := isFst_R (by omega) hf_8
  refine ww_mem (M1 := M) (hm_8) ?_
  refine ww_iconst C dX5_reason_11 ?_
  refine ww_icmp_eq C 17 dX5_reason_12 (by decide) (by omega) (by omega) (fun c_12 => ?_) (fun c_12 => ?_)
  · refine ww_aload_n C dX5_reason_17 0 rfl ?_
    refine gt_X5_19 C dX5_reason_18 ?_
    refine ww_aload_n C dX5_reason_21 0 rfl ?_
    refine gt_X5_12 C dX5_reason_22 ?_
    refine ww_callV C (As := [.ref (wa w 1)]) 10 (pl_lt (Or.inl rfl)) (ct_X1_tooFar w M 10 nv (Or.inl rfl) (hnu) (hnv) (hn4) (hs) (hst)) mf_X1_tooFar ml_X5_204 (pl_cell (Or.inl rfl) _) rfl (by decide) rfl rfl (Nat.le_of_ble_eq_true rfl) dX5_reason_25 (fun z_25 M_25 hp_25 => ?_)
    obtain ⟨hf_25, hm_25⟩ := hp_25
    have r25 := isFst_R (by omega) hf_25
    refine ww_mem (M1 := M) (hm_25) ?_
    refine ww_iconst C dX5_reason_28 ?_
    refine ww_icmp_eq C 34 dX5_reason_29 (by decide) (by omega) (by omega) (fun c_29 => ?_) (fun c_29 => ?_)
    · refine ww_aload_n C dX5_reason_34 0 rfl ?_
      refine ww_callVV C (As := []) 0 (by decide) (ct_X5_settle w M nv np (hI)) mf_X5_settle ml_X5_114 rfl rfl (by decide) rfl rfl (Nat.le_of_ble_eq_true rfl) dX5_reason_35 (fun M_35 hp_35 => ?_)
      obtain ⟨hse_35, hk_35⟩ := hp_35
      have hI_35 := hse_35.1
      have hla_35 := inv_la hI_35 hk_35
      refine ww_aload_n C dX5_reason_38 0 rfl ?_
      refine gt_X5_26 C dX5_reason_39 ?_
      refine gt_X5_207 C dX5_reason_42 ?_
      refine ww_iconst C dX5_reason_45 ?_
      refine ww_icmp_ne C 53 dX5_reason_46 (by decide) (by omega) (by omega) (fun c_46 => ?_) (fun c_46 => ?_)
      · refine ww_iconst C dX5_reason_53 ?_
        exact RT _ _ _ _ dX5_reason_54 (by first | exact ⟨⟨z_8, z_25, hf_8, hf_25, Or.inr (Or.inr (Or.inl ⟨by omega, by omega, hk_35, by omega, rfl⟩))⟩, hse_35⟩ | exact ⟨⟨z_8, z_25, hf_8, hf_25, Or.inr (Or.inr (Or.inr ⟨by omega, by omega, hk_35, by omega, rfl⟩))⟩, hse_35⟩)
      · refine ww_iconst C dX5_reason_49 ?_
        refine ww_goto C 54 dX5_reason_50 (by decide) ?_
        exact RT _ _ _ _ dX5_reason_54 (by first | exact ⟨⟨z_8, z_25, hf_8, hf_25, Or.inr (Or.inr (Or.inl ⟨by omega, by omega, hk_35, by omega, rfl⟩))⟩, hse_35⟩ | exact ⟨⟨z_8, z_25, hf_8, hf_25, Or.inr (Or.inr (Or.inr ⟨by omega, by omega, hk_35, by omega, rfl⟩))⟩, hse_35⟩)
    · refine ww_iconst C dX5_reason_32 ?_
      exact RT _ _ _ _ dX5_reason_33 (⟨⟨z_8, z_25, hf_8, hf_25, Or.inr (Or.inl ⟨by omega, by omega, rfl⟩)⟩, setS_rf hI⟩)
  · refine ww_iconst C dX5_reason_15 ?_
    exact RT _ _ _ _ dX5_reason_16 (⟨rea_1 hf_8 (by omega), setS_rf hI⟩)
set_option maxRecDepth 100000 in
set_option maxHeartbeats 4000000 in
theorem ct_X5_culprit (w : WLD) (M : Mem) (nv np : Nat) (r : Int) (hI : CInv M nv np) (hr : 0 ≤ r ∧ r ≤ 3) : CtI w yX5_culprit cX5_culprit 2 (some .int) rm_X5_culprit [.ref (wa w 0), .int (iZ r)] M (fun z M1 => culR (M 11) (M 2) (M 4) nv (M 12 6) r z ∧ M1 = M) := by
  refine CtI.of (by decide) (Nat.le_of_ble_eq_true rfl) rfl rfl ?_
  intro k hkL C RT
  obtain ⟨hs, hnv, hn4, hnp, hcd, hst, hac, hlf, hrt, hed, har9, hvk, hVk, hld, hnu, hf, h11, h21, h23, hkn, hpl, hl0, hb0, hb5, hth, hrn, har26, hb25⟩ := id hI
  show WW w k 0 [(0, .ref (wa w 0)), (1, .int (iZ r))] [] M
  refine ww_iload_n C dX5_culprit_0 1 rfl ?_
  rcases Classical.em (1 ≤ r ∧ r ≤ 3) with ht_1 | ht_1
  · rcases (show r = 1 ∨ r = 2 ∨ r = 3 by omega) with ht_1 | ht_1 | ht_1
    · refine ww_tabIn C 28 1 dX5_culprit_1 ht_1 (by decide) (by decide) rfl (by decide) ?_
      refine ww_aload_n C dX5_culprit_28 0 rfl ?_
      refine gt_X5_19 C dX5_culprit_29 ?_
      refine ww_aload_n C dX5_culprit_32 0 rfl ?_
      refine gt_X5_12 C dX5_culprit_33 ?_
      refine ww_callV C (As := [.ref (wa w 1)]) 10 (pl_lt (Or.inl rfl)) (ct_X1_tooEarly w M 10 nv (Or.inl rfl) (hnu) (hnv) (hn4) (hs) (hst)) mf_X1_tooEarly ml_X5_201 (pl_cell (Or.inl rfl) _) rfl (by decide) rfl rfl (Nat.le_of_ble_eq_true rfl) dX5_culprit_36 (fun z_36 M_36 hp_36 => ?_)
      obtain ⟨hf_36, hm_36⟩ := hp_36
      refine ww_mem (M1 := M) (hm_36) ?_
      exact RT _ _ _ _ dX5_culprit_39 (⟨Or.inl ⟨ht_1, hf_36⟩, rfl⟩)
    · refine ww_tabIn C 40 2 dX5_culprit_1 ht_1 (by decide) (by decide) rfl (by decide) ?_
      refine ww_aload_n C dX5_culprit_40 0 rfl ?_
      refine gt_X5_19 C dX5_culprit_41 ?_
      refine ww_aload_n C dX5_culprit_44 0 rfl ?_
      refine gt_X5_12 C dX5_culprit_45 ?_
      refine ww_callV C (As := [.ref (wa w 1)]) 10 (pl_lt (Or.inl rfl)) (ct_X1_tooFar w M 10 nv (Or.inl rfl) (hnu) (hnv) (hn4) (hs) (hst)) mf_X1_tooFar ml_X5_204 (pl_cell (Or.inl rfl) _) rfl (by decide) rfl rfl (Nat.le_of_ble_eq_true rfl) dX5_culprit_48 (fun z_48 M_48 hp_48 => ?_)
      obtain ⟨hf_48, hm_48⟩ := hp_48
      refine ww_mem (M1 := M) (hm_48) ?_
      exact RT _ _ _ _ dX5_culprit_51 (⟨Or.inr (Or.inl ⟨ht_1, hf_48⟩), rfl⟩)
    · refine ww_tabIn C 52 3 dX5_culprit_1 ht_1 (by decide) (by decide) rfl (by decide) ?_
      refine ww_aload_n C dX5_culprit_52 0 rfl ?_
      refine gt_X5_26 C dX5_culprit_53 ?_
      refine gt_X5_207 C dX5_culprit_56 ?_
      exact RT _ _ _ _ dX5_culprit_59 (⟨Or.inr (Or.inr (Or.inl ⟨ht_1, rfl⟩)), rfl⟩)
  · refine ww_tabOut C 60 dX5_culprit_1 (by omega) (by omega) (by decide) ?_
    refine ww_iconst C dX5_culprit_60 ?_
    exact RT _ _ _ _ dX5_culprit_61 (⟨Or.inr (Or.inr (Or.inr ⟨ht_1, rfl⟩)), rfl⟩)
set_option maxRecDepth 100000 in
set_option maxHeartbeats 4000000 in
theorem ct_X5_why (w : WLD) (M : Mem) (nv np : Nat) (x : Int) (hI : CInv M nv np) (hx : R32 x) : CtI w yX5_why cX5_why 3 (some .int) rm_X5_why [.ref (wa w 0), .int (iZ x)] M (fun z M1 => whyR (M 11) (M 2) (M 4) (M 10 1) nv x z ∧ setS M M1 nv np) := by
  refine CtI.of (by decide) (Nat.le_of_ble_eq_true rfl) rfl rfl ?_
  intro k hkL C RT
  obtain ⟨hs, hnv, hn4, hnp, hcd, hst, hac, hlf, hrt, hed, har9, hvk, hVk, hld, hnu, hf, h11, h21, h23, hkn, hpl, hl0, hb0, hb5, hth, hrn, har26, hb25⟩ := id hI
  show WW w k 0 [(0, .ref (wa w 0)), (1, .int (iZ x))] [] M
  refine ww_aload_n C dX5_why_0 0 rfl ?_
  refine ww_callV C (As := []) 0 (by decide) (ct_X5_reason w M nv np (hI)) mf_X5_reason ml_X5_103 rfl rfl (by decide) rfl rfl (Nat.le_of_ble_eq_true rfl) dX5_why_1 (fun z_1 M_1 hp_1 => ?_)
  obtain ⟨hre_1, hse_1⟩ := hp_1
  have hb1 := reaR_b hre_1
  have hI_1 := hse_1.1
  refine ww_istore_n C dX5_why_4 (lv' := [(2, .int (iZ z_1)), (0, .ref (wa w 0)), (1, .int (iZ x))]) (by rw [hkL]; decide) rfl ?_
  refine ww_iload_n C dX5_why_5 2 rfl ?_
  rcases Classical.em (0 ≤ x ∧ x ≤ 2) with ht_6 | ht_6
  · rcases (show x = 0 ∨ x = 1 ∨ x = 2 by omega) with ht_6 | ht_6 | ht_6
    · refine ww_tabIn C 32 0 dX5_why_6 ht_6 (by decide) (by decide) rfl (by decide) ?_
      refine ww_iload_n C dX5_why_32 0 rfl ?_
      exact RT _ _ _ _ dX5_why_33 (⟨why_0 hI hre_1 hse_1 ht_6, hse_1⟩)
    · refine ww_tabIn C 34 1 dX5_why_6 ht_6 (by decide) (by decide) rfl (by decide) ?_
      refine ww_aload_n C dX5_why_34 1 rfl ?_
      refine ww_iload_n C dX5_why_35 0 rfl ?_
      refine ww_callV C (As := [.int (iZ z_1)]) 0 (by decide) (ct_X5_culprit w M_1 nv np z_1 (hI_1) (hb1)) mf_X5_culprit ml_X5_107 rfl rfl (by decide) rfl rfl (Nat.le_of_ble_eq_true rfl) dX5_why_36 (fun z_36 M_36 hp_36 => ?_)
      obtain ⟨hcu_36, hm_36⟩ := hp_36
      refine ww_mem (M1 := M_1) (hm_36) ?_
      exact RT _ _ _ _ dX5_why_39 (⟨why_1 hI hre_1 hse_1 ht_6 hcu_36, hse_1⟩)
    · refine ww_tabIn C 40 2 dX5_why_6 ht_6 (by decide) (by decide) rfl (by decide) ?_
      refine ww_iload_n C dX5_why_40 0 rfl ?_
      refine ww_iconst C dX5_why_41 ?_
      refine ww_icmp_ne C 55 dX5_why_42 (by decide) (by omega) (by omega) (fun c_42 => ?_) (fun c_42 => ?_)
      · refine ww_iconst C dX5_why_55 ?_
        exact RT _ _ _ _ dX5_why_56 (⟨why_2 hI hre_1 hse_1 ht_6 (by first | exact Or.inl ⟨by omega, rfl⟩ | exact Or.inr ⟨by omega, rfl⟩), hse_1⟩)
      · refine ww_aload_n C dX5_why_45 1 rfl ?_
        refine gt_X5_26 C dX5_why_46 ?_
        refine gt_X5_111 C dX5_why_49 ?_
        refine ww_goto C 56 dX5_why_52 (by decide) ?_
        exact RT _ _ _ _ dX5_why_56 (⟨why_2 hI hre_1 hse_1 ht_6 (by first | exact Or.inl ⟨by omega, rfl⟩ | exact Or.inr ⟨by omega, rfl⟩), hse_1⟩)
  · refine ww_tabOut C 57 dX5_why_6 (by omega) (by omega) (by decide) ?_
    refine ww_iconst C dX5_why_57 ?_
    exact RT _ _ _ _ dX5_why_58 (⟨why_3 hI ht_6, hse_1⟩)
