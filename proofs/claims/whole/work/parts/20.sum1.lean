set_option maxRecDepth 100000 in
set_option maxHeartbeats 4000000 in
theorem ct_X4_has (w : WLD) (M : Mem) (v : Int) (hv : R32 v) (hn : R32 (M 1 3)) : CtI w yX4_has cX4_has 2 (some .boolean) rm_X4_has [.ref (wa w 1), .int (iZ v)] M (fun z M1 => z = b2i (0 ≤ v ∧ v < M 1 3) ∧ M1 = M) := by
  refine CtI.ofZ (by decide) (Nat.le_of_ble_eq_true rfl) rfl rfl (fun z M9 h9 => by rw [h9.1]; exact b2i_01 _) ?_
  intro k hkL C RT
  show WW w k 0 [(0, .ref (wa w 1)), (1, .int (iZ v))] [] M
  refine ww_iload_n C dX4_has_0 1 rfl ?_
  refine ww_if_lt C 16 dX4_has_1 (by decide) (by omega) (fun c_1 => ?_) (fun c_1 => ?_)
  · refine ww_iconst C dX4_has_16 ?_
    exact RT _ _ _ _ dX4_has_17 (⟨by first | exact (b2i_t (by omega)).symm | exact (b2i_f (by omega)).symm, rfl⟩)
  · refine ww_iload_n C dX4_has_4 1 rfl ?_
    refine ww_aload_n C dX4_has_5 0 rfl ?_
    refine gt_X4_22 C dX4_has_6 ?_
    refine ww_icmp_ge C 16 dX4_has_9 (by decide) (by omega) (by omega) (fun c_9 => ?_) (fun c_9 => ?_)
    · refine ww_iconst C dX4_has_16 ?_
      exact RT _ _ _ _ dX4_has_17 (⟨by first | exact (b2i_t (by omega)).symm | exact (b2i_f (by omega)).symm, rfl⟩)
    · refine ww_iconst C dX4_has_12 ?_
      refine ww_goto C 17 dX4_has_13 (by decide) ?_
      exact RT _ _ _ _ dX4_has_17 (⟨by first | exact (b2i_t (by omega)).symm | exact (b2i_f (by omega)).symm, rfl⟩)
set_option maxRecDepth 100000 in
set_option maxHeartbeats 4000000 in
theorem ct_X4_codeOf (w : WLD) (M : Mem) (i j k0 : Int) (hi : R32 i) (hj : R32 j) (hk : R32 k0) (hs : SzOk (M 2)) : CtI w yX4_codeOf cX4_codeOf 4 (some .int) rm_X4_codeOf [.ref (wa w 1), .int (iZ i), .int (iZ j), .int (iZ k0)] M (fun z M1 => z = codeZ (M 2) i j k0 ∧ M1 = M) := by
  refine CtI.of (by decide) (Nat.le_of_ble_eq_true rfl) rfl rfl ?_
  intro k hkL C RT
  show WW w k 0 [(0, .ref (wa w 1)), (1, .int (iZ i)), (2, .int (iZ j)), (3, .int (iZ k0))] [] M
  refine ww_iload_n C dX4_codeOf_0 1 rfl ?_
  refine ww_if_lt C 42 dX4_codeOf_1 (by decide) (by omega) (fun c_1 => ?_) (fun c_1 => ?_)
  · refine ww_iconst C dX4_codeOf_42 ?_
    exact RT _ _ _ _ dX4_codeOf_43 (⟨by unfold codeZ; split <;> omega, rfl⟩)
  · refine ww_iload_n C dX4_codeOf_4 1 rfl ?_
    refine ww_aload_n C dX4_codeOf_5 0 rfl ?_
    refine gt_X4_9 C dX4_codeOf_6 ?_
    refine ww_iconst C dX4_codeOf_9 ?_
    refine al_2 C 0 (z := M 2 0) rfl (by omega) rfl dX4_codeOf_10 ?_
    refine ww_icmp_ge C 42 dX4_codeOf_11 (by decide) (by omega) (by omega) (fun c_11 => ?_) (fun c_11 => ?_)
    · refine ww_iconst C dX4_codeOf_42 ?_
      exact RT _ _ _ _ dX4_codeOf_43 (⟨by unfold codeZ; split <;> omega, rfl⟩)
    · refine ww_iload_n C dX4_codeOf_14 2 rfl ?_
      refine ww_if_lt C 42 dX4_codeOf_15 (by decide) (by omega) (fun c_15 => ?_) (fun c_15 => ?_)
      · refine ww_iconst C dX4_codeOf_42 ?_
        exact RT _ _ _ _ dX4_codeOf_43 (⟨by unfold codeZ; split <;> omega, rfl⟩)
      · refine ww_iload_n C dX4_codeOf_18 2 rfl ?_
        refine ww_aload_n C dX4_codeOf_19 0 rfl ?_
        refine gt_X4_9 C dX4_codeOf_20 ?_
        refine ww_iconst C dX4_codeOf_23 ?_
        refine al_2 C 1 (z := M 2 1) rfl (by omega) rfl dX4_codeOf_24 ?_
        refine ww_icmp_ge C 42 dX4_codeOf_25 (by decide) (by omega) (by omega) (fun c_25 => ?_) (fun c_25 => ?_)
        · refine ww_iconst C dX4_codeOf_42 ?_
          exact RT _ _ _ _ dX4_codeOf_43 (⟨by unfold codeZ; split <;> omega, rfl⟩)
        · refine ww_iload_n C dX4_codeOf_28 3 rfl ?_
          refine ww_if_lt C 42 dX4_codeOf_29 (by decide) (by omega) (fun c_29 => ?_) (fun c_29 => ?_)
          · refine ww_iconst C dX4_codeOf_42 ?_
            exact RT _ _ _ _ dX4_codeOf_43 (⟨by unfold codeZ; split <;> omega, rfl⟩)
          · refine ww_iload_n C dX4_codeOf_32 3 rfl ?_
            refine ww_aload_n C dX4_codeOf_33 0 rfl ?_
            refine gt_X4_9 C dX4_codeOf_34 ?_
            refine ww_iconst C dX4_codeOf_37 ?_
            refine al_2 C 2 (z := M 2 2) rfl (by omega) rfl dX4_codeOf_38 ?_
            refine ww_icmp_lt C 44 dX4_codeOf_39 (by decide) (by omega) (by omega) (fun c_39 => ?_) (fun c_39 => ?_)
            · refine ww_bipush C dX4_codeOf_44 (by decide) ?_
              refine ww_iload_n C dX4_codeOf_46 1 rfl ?_
              refine ww_imul C dX4_codeOf_47 ?_
              refine ww_bipush C dX4_codeOf_48 (by decide) ?_
              refine ww_iload_n C dX4_codeOf_50 2 rfl ?_
              refine ww_imul C dX4_codeOf_51 ?_
              refine ww_iadd C dX4_codeOf_52 ?_
              refine ww_iload_n C dX4_codeOf_53 3 rfl ?_
              refine ww_iadd C dX4_codeOf_54 ?_
              exact RT _ _ _ _ dX4_codeOf_55 (⟨by unfold codeZ; split <;> omega, rfl⟩)
            · refine ww_iconst C dX4_codeOf_42 ?_
              exact RT _ _ _ _ dX4_codeOf_43 (⟨by unfold codeZ; split <;> omega, rfl⟩)
set_option maxRecDepth 100000 in
set_option maxHeartbeats 4000000 in
theorem ct_X4_isNeeded (w : WLD) (M : Mem) (v : Nat) (hv : v < 4) (hs : SzOk (M 2)) (hst : ∀ q, q < 12 → -2 ≤ M 4 q ∧ M 4 q ≤ 2) : CtI w yX4_isNeeded cX4_isNeeded 3 (some .boolean) rm_X4_isNeeded [.ref (wa w 1), .int (iZ ((v : Nat) : Int))] M (fun z M1 => z = b2i (∀ t : Nat, t < 3 → aZ (M 4 (3 * v + t)) < M 2 t) ∧ M1 = M) := by
  refine CtI.ofZ (by decide) (Nat.le_of_ble_eq_true rfl) rfl rfl (fun z M9 h9 => by rw [h9.1]; exact b2i_01 _) ?_
  intro k hkL C RT
  show WW w k 0 [(0, .ref (wa w 1)), (1, .int (iZ ((v : Nat) : Int)))] [] M
  refine ww_iconst C dX4_isNeeded_0 ?_
  refine ww_istore_n C dX4_isNeeded_1 (lv' := [(2, .int (iZ 0)), (0, .ref (wa w 1)), (1, .int (iZ ((v : Nat) : Int)))]) (by rw [hkL]; decide) rfl ?_
  have L_2 : ∀ (fuel : Nat) (t : Nat) (ht : t ≤ 3) (hI : ∀ q : Nat, q < t → aZ (M 4 (3 * v + q)) < M 2 q), 3 - t < fuel → WW w k 2 [(0, .ref (wa w 1)), (1, .int (iZ ((v : Nat) : Int))), (2, .int (iZ ((t : Nat) : Int)))] [] M := by
    intro fuel
    induction fuel with
    | zero => intro t ht hI hf_2; exact absurd hf_2 (Nat.not_lt_zero _)
    | succ fuel ih_2 =>
      intro t ht hI hf_2
      have hst1 := hst (3 * v + t)
      have hsz : t < 3 → 1 ≤ M 2 t ∧ M 2 t ≤ 8 := by
        intro h
        rcases (show t = 0 ∨ t = 1 ∨ t = 2 by omega) with rfl | rfl | rfl <;> omega
      refine ww_iload_n C dX4_isNeeded_2 2 rfl ?_
      refine ww_iconst C dX4_isNeeded_3 ?_
      refine ww_icmp_ge C 37 dX4_isNeeded_4 (by decide) (by omega) (by omega) (fun c_4 => ?_) (fun c_4 => ?_)
      · refine ww_iconst C dX4_isNeeded_37 ?_
        exact RT _ _ _ _ dX4_isNeeded_38 (⟨(b2i_t (fun q h => hI q (by omega))).symm, rfl⟩)
      · refine ww_aload_n C dX4_isNeeded_7 0 rfl ?_
        refine gt_X4_25 C dX4_isNeeded_8 ?_
        refine ww_iconst C dX4_isNeeded_11 ?_
        refine ww_iload_n C dX4_isNeeded_12 1 rfl ?_
        refine ww_imul C dX4_isNeeded_13 ?_
        refine ww_iload_n C dX4_isNeeded_14 2 rfl ?_
        refine ww_iadd C dX4_isNeeded_15 ?_
        refine al_4 C (3 * v + t) (z := M 4 (3 * v + t)) (by omega) (by omega) rfl dX4_isNeeded_16 ?_
        refine ww_abs C ml_X4_61 (by have := hst1 (by omega); omega) (by decide) (Nat.le_of_ble_eq_true rfl) dX4_isNeeded_17 ?_
        refine ww_aload_n C dX4_isNeeded_20 0 rfl ?_
        refine gt_X4_9 C dX4_isNeeded_21 ?_
        refine ww_iload_n C dX4_isNeeded_24 2 rfl ?_
        refine al_2 C t (z := M 2 t) rfl (by omega) rfl dX4_isNeeded_25 ?_
        refine ww_icmp_lt C 31 dX4_isNeeded_26 (by decide) (by unfold aZ; have := hst1 (by omega); split <;> omega) (by have := hsz (by omega); omega) (fun c_26 => ?_) (fun c_26 => ?_)
        · refine ww_iinc2 C dX4_isNeeded_31 2 rfl (b := ((t + 1 : Nat) : Int)) (by omega) (lv' := [(2, .int (iZ ((t + 1 : Nat) : Int))), (0, .ref (wa w 1)), (1, .int (iZ ((v : Nat) : Int)))]) (by rw [hkL]; decide) rfl ?_
          refine ww_goto C 2 dX4_isNeeded_34 (by decide) ?_
          refine ww_sub [1, 2, 0] rfl ?_
          exact ih_2 (t + 1) (by omega) (fun q h => by rcases Nat.lt_succ_iff_lt_or_eq.mp h with h | rfl; exact hI q h; exact c_26) (by omega)
        · refine ww_iconst C dX4_isNeeded_29 ?_
          exact RT _ _ _ _ dX4_isNeeded_30 (⟨(b2i_f (fun h => c_26 (h t (by omega)))).symm, rfl⟩)
  refine ww_sub [1, 2, 0] rfl ?_
  exact L_2 _ 0 (by omega) (fun q h => absurd h (Nat.not_lt_zero _)) (Nat.lt_succ_self _)
