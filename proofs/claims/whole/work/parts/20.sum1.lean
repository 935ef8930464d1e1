set_option maxRecDepth 100000 in
set_option maxHeartbeats 4000000 in
theorem ct_J7_fill_53178 (w : WLD) (M : Mem) (h L : Nat) (z : Int) (hh : h < 44) (hrow : ∀ f : Nat → Int, cellOf (wI w) (wZ w) (wa w) h f = rowI (wI w) L f) (hL : L < 2147483648) : CtV w yJ7_fill_53178 cJ7_fill_53178 4 rm_J7_fill_53178 [.ref (wa w h), .int (iZ z)] M (fun M1 => M1 = ups M h (fil L z (M h))) := by
  refine CtV.of (by decide) (Nat.le_of_ble_eq_true rfl) rfl rfl ?_
  intro k hkL C RT
  show WW w k 0 [(0, .ref (wa w h)), (1, .int (iZ z))] [] M
  refine ww_iconst C dJ7_fill_53178_0 ?_
  refine ww_istore_n C dJ7_fill_53178_1 (lv' := [(2, .int (iZ 0)), (0, .ref (wa w h)), (1, .int (iZ z))]) (by rw [hkL]; decide) rfl ?_
  refine ww_aload_n C dJ7_fill_53178_2 1 rfl ?_
  refine ww_alen C h hh (hrow _) dJ7_fill_53178_3 ?_
  refine ww_istore_n C dJ7_fill_53178_4 (lv' := [(3, .int (iZ ((L : Nat) : Int))), (2, .int (iZ 0)), (0, .ref (wa w h)), (1, .int (iZ z))]) (by rw [hkL]; decide) rfl ?_
  have L_5 : ∀ (fuel : Nat) (t : Nat) (ht : t ≤ L), L - t < fuel → WW w k 5 [(0, .ref (wa w h)), (1, .int (iZ z)), (2, .int (iZ ((t : Nat) : Int))), (3, .int (iZ ((L : Nat) : Int)))] [] (ups M h (fil t z (M h))) := by
    intro fuel
    induction fuel with
    | zero => intro t ht hf_5; exact absurd hf_5 (Nat.not_lt_zero _)
    | succ fuel ih_5 =>
      intro t ht hf_5
      refine ww_iload_n C dJ7_fill_53178_5 2 rfl ?_
      refine ww_iload_n C dJ7_fill_53178_6 3 rfl ?_
      refine ww_icmp_ge C 20 dJ7_fill_53178_7 (by decide) (by omega) (by omega) (fun c_7 => ?_) (fun c_7 => ?_)
      · exact RT _ _ _ dJ7_fill_53178_20 (by rw [show t = L by omega])
      · refine ww_aload_n C dJ7_fill_53178_10 0 rfl ?_
        refine ww_iload_n C dJ7_fill_53178_11 2 rfl ?_
        refine ww_iload_n C dJ7_fill_53178_12 1 rfl ?_
        refine as_gen C hh hrow hL t rfl (by omega) dJ7_fill_53178_13 ?_
        refine ww_mem (M1 := ups M h (fil (t + 1) z (M h))) (by rw [ups_ups, ups_s, fil_s]) ?_
        refine ww_iinc2 C dJ7_fill_53178_14 2 rfl (b := ((t + 1 : Nat) : Int)) (by omega) (lv' := [(2, .int (iZ ((t + 1 : Nat) : Int))), (0, .ref (wa w h)), (1, .int (iZ z)), (3, .int (iZ ((L : Nat) : Int)))]) (by rw [hkL]; decide) rfl ?_
        refine ww_goto C 5 dJ7_fill_53178_17 (by decide) ?_
        refine ww_sub [1, 2, 0, 3] rfl ?_
        exact ih_5 (t + 1) (by omega) (by omega)
  refine ww_sub [2, 3, 1, 0] rfl ?_
  refine ww_mem (M1 := ups M h (fil 0 z (M h))) (by rw [fil_0, ups_id]) ?_
  exact L_5 _ 0 (by omega) (Nat.lt_succ_self _)
set_option maxRecDepth 100000 in
set_option maxHeartbeats 4000000 in
theorem ct_X4_has (w : WLD) (M : Mem) (v : Int) (hv : R32 v) (hn : R32 (M 1 3)) : CtI w yX4_has cX4_has 2 (some .boolean) rm_X4_has [.ref (wa w 1), .int (iZ v)] M (fun z M1 => z = b2i (0 ≤ v ∧ v < M 1 3) ∧ M1 = M) := by
  refine CtI.ofZ (by decide) (Nat.le_of_ble_eq_true rfl) rfl rfl (fun z M9 h9 => by rw [h9.1]; exact b2i_01 _) ?_
  intro k hkL C RT
  show WW w k 0 [(0, .ref (wa w 1)), (1, .int (iZ v))] [] M
  refine ww_iload_n C dX4_has_0 1 rfl ?_
  refine ww_if_lt C 16 dX4_has_1 (by decide) (by omega) (fun c_1 => ?_) (fun c_1 => ?_)
  · refine ww_iconst C dX4_has_16 ?_
    exact RT _ _ _ _ dX4_has_17 (⟨by first | exact (b2i_t (by omega)).symm | exact (b2i_f (by omega)).symm, rfl⟩)
  · refine ww_iload_n C dX4_has_4 1 rfl ?_
    refine ww_aload_n C dX4_has_5 0 rfl ?_
    refine gt_X4_22 C dX4_has_6 ?_
    refine ww_icmp_ge C 16 dX4_has_9 (by decide) (by omega) (by omega) (fun c_9 => ?_) (fun c_9 => ?_)
    · refine ww_iconst C dX4_has_16 ?_
      exact RT _ _ _ _ dX4_has_17 (⟨by first | exact (b2i_t (by omega)).symm | exact (b2i_f (by omega)).symm, rfl⟩)
    · refine ww_iconst C dX4_has_12 ?_
      refine ww_goto C 17 dX4_has_13 (by decide) ?_
      exact RT _ _ _ _ dX4_has_17 (⟨by first | exact (b2i_t (by omega)).symm | exact (b2i_f (by omega)).symm, rfl⟩)
set_option maxRecDepth 100000 in
set_option maxHeartbeats 4000000 in
theorem ct_X4_codeOf (w : WLD) (M : Mem) (i j k0 : Int) (hi : R32 i) (hj : R32 j) (hk : R32 k0) (hs : SzOk (M 2)) : CtI w yX4_codeOf cX4_codeOf 4 (some .int) rm_X4_codeOf [.ref (wa w 1), .int (iZ i), .int (iZ j), .int (iZ k0)] M (fun z M1 => z = codeZ (M 2) i j k0 ∧ M1 = M) := by
  refine CtI.of (by decide) (Nat.le_of_ble_eq_true rfl) rfl rfl ?_
  intro k hkL C RT
  show WW w k 0 [(0, .ref (wa w 1)), (1, .int (iZ i)), (2, .int (iZ j)), (3, .int (iZ k0))] [] M
  refine ww_iload_n C dX4_codeOf_0 1 rfl ?_
  refine ww_if_lt C 42 dX4_codeOf_1 (by decide) (by omega) (fun c_1 => ?_) (fun c_1 => ?_)
  · refine ww_iconst C dX4_codeOf_42 ?_
    exact RT _ _ _ _ dX4_codeOf_43 (⟨by unfold codeZ; split <;> omega, rfl⟩)
  · refine ww_iload_n C dX4_codeOf_4 1 rfl ?_
    refine ww_aload_n C dX4_codeOf_5 0 rfl ?_
    refine gt_X4_9 C dX4_codeOf_6 ?_
    refine ww_iconst C dX4_codeOf_9 ?_
    refine al_2 C 0 (z := M 2 0) rfl (by omega) rfl dX4_codeOf_10 ?_
    refine ww_icmp_ge C 42 dX4_codeOf_11 (by decide) (by omega) (by omega) (fun c_11 => ?_) (fun c_11 => ?_)
    · refine ww_iconst C dX4_codeOf_42 ?_
      exact RT _ _ _ _ dX4_codeOf_43 (⟨by unfold codeZ; split <;> omega, rfl⟩)
    · refine ww_iload_n C dX4_codeOf_14 2 rfl ?_
      refine ww_if_lt C 42 dX4_codeOf_15 (by decide) (by omega) (fun c_15 => ?_) (fun c_15 => ?_)
      · refine ww_iconst C dX4_codeOf_42 ?_
        exact RT _ _ _ _ dX4_codeOf_43 (⟨by unfold codeZ; split <;> omega, rfl⟩)
      · refine ww_iload_n C dX4_codeOf_18 2 rfl ?_
        refine ww_aload_n C dX4_codeOf_19 0 rfl ?_
        refine gt_X4_9 C dX4_codeOf_20 ?_
        refine ww_iconst C dX4_codeOf_23 ?_
        refine al_2 C 1 (z := M 2 1) rfl (by omega) rfl dX4_codeOf_24 ?_
        refine ww_icmp_ge C 42 dX4_codeOf_25 (by decide) (by omega) (by omega) (fun c_25 => ?_) (fun c_25 => ?_)
        · refine ww_iconst C dX4_codeOf_42 ?_
          exact RT _ _ _ _ dX4_codeOf_43 (⟨by unfold codeZ; split <;> omega, rfl⟩)
        · refine ww_iload_n C dX4_codeOf_28 3 rfl ?_
          refine ww_if_lt C 42 dX4_codeOf_29 (by decide) (by omega) (fun c_29 => ?_) (fun c_29 => ?_)
          · refine ww_iconst C dX4_codeOf_42 ?_
            exact RT _ _ _ _ dX4_codeOf_43 (⟨by unfold codeZ; split <;> omega, rfl⟩)
          · refine ww_iload_n C dX4_codeOf_32 3 rfl ?_
            refine ww_aload_n C dX4_codeOf_33 0 rfl ?_
            refine gt_X4_9 C dX4_codeOf_34 ?_
            refine ww_iconst C dX4_codeOf_37 ?_
            refine al_2 C 2 (z := M 2 2) rfl (by omega) rfl dX4_codeOf_38 ?_
            refine ww_icmp_lt C 44 dX4_codeOf_39 (by decide) (by omega) (by omega) (fun c_39 => ?_) (fun c_39 => ?_)
            · refine ww_bipush C dX4_codeOf_44 (by decide) ?_
              refine ww_iload_n C dX4_codeOf_46 1 rfl ?_
              refine ww_imul C dX4_codeOf_47 ?_
              refine ww_bipush C dX4_codeOf_48 (by decide) ?_
              refine ww_iload_n C dX4_codeOf_50 2 rfl ?_
              refine ww_imul C dX4_codeOf_51 ?_
              refine ww_iadd C dX4_codeOf_52 ?_
              refine ww_iload_n C dX4_codeOf_53 3 rfl ?_
              refine ww_iadd C dX4_codeOf_54 ?_
              exact RT _ _ _ _ dX4_codeOf_55 (⟨by unfold codeZ; split <;> omega, rfl⟩)
            · refine ww_iconst C dX4_codeOf_42 ?_
              exact RT _ _ _ _ dX4_codeOf_43 (⟨by unfold codeZ; split <;> omega, rfl⟩)
set_option maxRecDepth 100000 in
set_option maxHeartbeats 4000000 in
theorem ct_X4_isNeeded (w : WLD) (M : Mem) (v : Nat) (hv : v < 4) (hs : SzOk (M 2)) (hst : StOk (M 4)) : CtI w yX4_isNeeded cX4_isNeeded 3 (some .boolean) rm_X4_isNeeded [.ref (wa w 1), .int (iZ ((v : Nat) : Int))] M (fun z M1 => z = b2i (needP (M 2) (M 4) v) ∧ M1 = M) := by
  refine CtI.ofZ (by decide) (Nat.le_of_ble_eq_true rfl) rfl rfl (fun z M9 h9 => by rw [h9.1]; exact b2i_01 _) ?_
  intro k hkL C RT
  have hst0 := hst (3 * v) (by omega)
  have hst1 := hst (3 * v + 1) (by omega)
  have hst2 := hst (3 * v + 2) (by omega)
  have ha0 := aZ_b hst0.1 hst0.2
  have ha1 := aZ_b hst1.1 hst1.2
  have ha2 := aZ_b hst2.1 hst2.2
  show WW w k 0 [(0, .ref (wa w 1)), (1, .int (iZ ((v : Nat) : Int)))] [] M
  refine ww_iconst C dX4_isNeeded_0 ?_
  refine ww_istore_n C dX4_isNeeded_1 (lv' := [(2, .int (iZ 0)), (0, .ref (wa w 1)), (1, .int (iZ ((v : Nat) : Int)))]) (by rw [hkL]; decide) rfl ?_
  refine ww_iload_n C dX4_isNeeded_2 0 rfl ?_
  refine ww_iconst C dX4_isNeeded_3 ?_
  refine ww_icmp_ge C 37 dX4_isNeeded_4 (by decide) (by omega) (by omega) (fun c_4 => ?_) (fun c_4 => ?_)
  · exact absurd c_4 (by decide)
  · refine ww_aload_n C dX4_isNeeded_7 1 rfl ?_
    refine gt_X4_25 C dX4_isNeeded_8 ?_
    refine ww_iconst C dX4_isNeeded_11 ?_
    refine ww_iload_n C dX4_isNeeded_12 2 rfl ?_
    refine ww_imul C dX4_isNeeded_13 ?_
    refine ww_iload_n C dX4_isNeeded_14 0 rfl ?_
    refine ww_iadd C dX4_isNeeded_15 ?_
    refine al_4 C (3 * v) (z := M 4 (3 * v)) (by omega) (by omega) rfl dX4_isNeeded_16 ?_
    refine ww_abs C ml_X4_61 (by omega) (by decide) (Nat.le_of_ble_eq_true rfl) dX4_isNeeded_17 ?_
    refine ww_aload_n C dX4_isNeeded_20 1 rfl ?_
    refine gt_X4_9 C dX4_isNeeded_21 ?_
    refine ww_iload_n C dX4_isNeeded_24 0 rfl ?_
    refine al_2 C 0 (z := M 2 0) rfl (by omega) rfl dX4_isNeeded_25 ?_
    refine ww_icmp_lt C 31 dX4_isNeeded_26 (by decide) (by omega) (by omega) (fun c_26 => ?_) (fun c_26 => ?_)
    · refine ww_iinc2 C dX4_isNeeded_31 0 rfl (b := 1) (by omega) (lv' := [(2, .int (iZ 1)), (0, .ref (wa w 1)), (1, .int (iZ ((v : Nat) : Int)))]) (by rw [hkL]; decide) rfl ?_
      refine ww_goto C 2 dX4_isNeeded_34 (by decide) ?_
      refine ww_iload_n C dX4_isNeeded_2 0 rfl ?_
      refine ww_iconst C dX4_isNeeded_3 ?_
      refine ww_icmp_ge C 37 dX4_isNeeded_4 (by decide) (by omega) (by omega) (fun c_4 => ?_) (fun c_4 => ?_)
      · exact absurd c_4 (by decide)
      · refine ww_aload_n C dX4_isNeeded_7 1 rfl ?_
        refine gt_X4_25 C dX4_isNeeded_8 ?_
        refine ww_iconst C dX4_isNeeded_11 ?_
        refine ww_iload_n C dX4_isNeeded_12 2 rfl ?_
        refine ww_imul C dX4_isNeeded_13 ?_
        refine ww_iload_n C dX4_isNeeded_14 0 rfl ?_
        refine ww_iadd C dX4_isNeeded_15 ?_
        refine al_4 C (3 * v + 1) (z := M 4 (3 * v + 1)) (by omega) (by omega) rfl dX4_isNeeded_16 ?_
        refine ww_abs C ml_X4_61 (by omega) (by decide) (Nat.le_of_ble_eq_true rfl) dX4_isNeeded_17 ?_
        refine ww_aload_n C dX4_isNeeded_20 1 rfl ?_
        refine gt_X4_9 C dX4_isNeeded_21 ?_
        refine ww_iload_n C dX4_isNeeded_24 0 rfl ?_
        refine al_2 C 1 (z := M 2 1) rfl (by omega) rfl dX4_isNeeded_25 ?_
        refine ww_icmp_lt C 31 dX4_isNeeded_26 (by decide) (by omega) (by omega) (fun c_26 => ?_) (fun c_26 => ?_)
        · refine ww_iinc2 C dX4_isNeeded_31 0 rfl (b := 2) (by omega) (lv' := [(2, .int (iZ 2)), (0, .ref (wa w 1)), (1, .int (iZ ((v : Nat) : Int)))]) (by rw [hkL]; decide) rfl ?_
          refine ww_goto C 2 dX4_isNeeded_34 (by decide) ?_
          refine ww_iload_n C dX4_isNeeded_2 0 rfl ?_
          refine ww_iconst C dX4_isNeeded_3 ?_
          refine ww_icmp_ge C 37 dX4_isNeeded_4 (by decide) (by omega) (by omega) (fun c_4 => ?_) (fun c_4 => ?_)
          · exact absurd c_4 (by decide)
          · refine ww_aload_n C dX4_isNeeded_7 1 rfl ?_
            refine gt_X4_25 C dX4_isNeeded_8 ?_
            refine ww_iconst C dX4_isNeeded_11 ?_
            refine ww_iload_n C dX4_isNeeded_12 2 rfl ?_
            refine ww_imul C dX4_isNeeded_13 ?_
            refine ww_iload_n C dX4_isNeeded_14 0 rfl ?_
            refine ww_iadd C dX4_isNeeded_15 ?_
            refine al_4 C (3 * v + 2) (z := M 4 (3 * v + 2)) (by omega) (by omega) rfl dX4_isNeeded_16 ?_
            refine ww_abs C ml_X4_61 (by omega) (by decide) (Nat.le_of_ble_eq_true rfl) dX4_isNeeded_17 ?_
            refine ww_aload_n C dX4_isNeeded_20 1 rfl ?_
            refine gt_X4_9 C dX4_isNeeded_21 ?_
            refine ww_iload_n C dX4_isNeeded_24 0 rfl ?_
            refine al_2 C 2 (z := M 2 2) rfl (by omega) rfl dX4_isNeeded_25 ?_
            refine ww_icmp_lt C 31 dX4_isNeeded_26 (by decide) (by omega) (by omega) (fun c_26 => ?_) (fun c_26 => ?_)
            · refine ww_iinc2 C dX4_isNeeded_31 0 rfl (b := 3) (by omega) (lv' := [(2, .int (iZ 3)), (0, .ref (wa w 1)), (1, .int (iZ ((v : Nat) : Int)))]) (by rw [hkL]; decide) rfl ?_
              refine ww_goto C 2 dX4_isNeeded_34 (by decide) ?_
              refine ww_iload_n C dX4_isNeeded_2 0 rfl ?_
              refine ww_iconst C dX4_isNeeded_3 ?_
              refine ww_icmp_ge C 37 dX4_isNeeded_4 (by decide) (by omega) (by omega) (fun c_4 => ?_) (fun c_4 => ?_)
              · refine ww_iconst C dX4_isNeeded_37 ?_
                exact RT _ _ _ _ dX4_isNeeded_38 (⟨by first | exact (b2i_t (by omega)).symm | exact (b2i_f (by omega)).symm, rfl⟩)
              · exact absurd c_4 (by decide)
            · refine ww_iconst C dX4_isNeeded_29 ?_
              exact RT _ _ _ _ dX4_isNeeded_30 (⟨by first | exact (b2i_t (by omega)).symm | exact (b2i_f (by omega)).symm, rfl⟩)
        · refine ww_iconst C dX4_isNeeded_29 ?_
          exact RT _ _ _ _ dX4_isNeeded_30 (⟨by first | exact (b2i_t (by omega)).symm | exact (b2i_f (by omega)).symm, rfl⟩)
    · refine ww_iconst C dX4_isNeeded_29 ?_
      exact RT _ _ _ _ dX4_isNeeded_30 (⟨by first | exact (b2i_t (by omega)).symm | exact (b2i_f (by omega)).symm, rfl⟩)
set_option maxRecDepth 100000 in
set_option maxHeartbeats 4000000 in
theorem ct_X4_stepped (w : WLD) (M : Mem) (v p : Nat) (sg : Int) (hv : v < 4) (hp : p < 512) (hsg : sg = 1 ∨ sg = -1) (hs : SzOk (M 2)) (hst : StOk (M 4)) : CtI w yX4_stepped cX4_stepped 7 (some .int) rm_X4_stepped [.ref (wa w 1), .int (iZ ((v : Nat) : Int)), .int (iZ ((p : Nat) : Int)), .int (iZ sg)] M (fun z M1 => z = stepZ (M 2) (M 4) v p sg ∧ M1 = M) := by
  refine CtI.of (by decide) (Nat.le_of_ble_eq_true rfl) rfl rfl ?_
  intro k hkL C RT
  have hst0 := hst (3 * v) (by omega)
  have hst1 := hst (3 * v + 1) (by omega)
  have hst2 := hst (3 * v + 2) (by omega)
  have e0 : R32 (sg * M 4 (3 * v)) ∧ -2 ≤ sg * M 4 (3 * v) ∧ sg * M 4 (3 * v) ≤ 2 := by rcases hsg with rfl | rfl <;> omega
  have e1 : R32 (sg * M 4 (3 * v + 1)) ∧ -2 ≤ sg * M 4 (3 * v + 1) ∧ sg * M 4 (3 * v + 1) ≤ 2 := by rcases hsg with rfl | rfl <;> omega
  have e2 : R32 (sg * M 4 (3 * v + 2)) ∧ -2 ≤ sg * M 4 (3 * v + 2) ∧ sg * M 4 (3 * v + 2) ≤ 2 := by rcases hsg with rfl | rfl <;> omega
  show WW w k 0 [(0, .ref (wa w 1)), (1, .int (iZ ((v : Nat) : Int))), (2, .int (iZ ((p : Nat) : Int))), (3, .int (iZ sg))] [] M
  refine ww_iload_n C dX4_stepped_0 2 rfl ?_
  refine ww_bipush C dX4_stepped_1 (by decide) ?_
  refine ww_ishr6 C dX4_stepped_3 p rfl (by omega) ?_
  refine ww_iload_n C dX4_stepped_4 3 rfl ?_
  refine ww_aload_n C dX4_stepped_5 0 rfl ?_
  refine gt_X4_25 C dX4_stepped_6 ?_
  refine ww_iconst C dX4_stepped_9 ?_
  refine ww_iload_n C dX4_stepped_10 1 rfl ?_
  refine ww_imul C dX4_stepped_11 ?_
  refine al_4 C (3 * v) (z := M 4 (3 * v)) (by omega) (by omega) rfl dX4_stepped_12 ?_
  refine ww_imul C dX4_stepped_13 ?_
  refine ww_iadd C dX4_stepped_14 ?_
  refine ww_istore C dX4_stepped_15 (lv' := [(4, .int (iZ (((p / 64 : Nat) : Int) + (sg * (M 4 (3 * v)))))), (0, .ref (wa w 1)), (1, .int (iZ ((v : Nat) : Int))), (2, .int (iZ ((p : Nat) : Int))), (3, .int (iZ sg))]) (by rw [hkL]; decide) rfl ?_
  refine ww_iload_n C dX4_stepped_17 3 rfl ?_
  refine ww_iconst C dX4_stepped_18 ?_
  refine ww_ishr3 C dX4_stepped_19 p rfl (by omega) ?_
  refine ww_bipush C dX4_stepped_20 (by decide) ?_
  refine ww_iand7 C dX4_stepped_22 (p / 8) rfl (by omega) ?_
  refine ww_iload_n C dX4_stepped_23 4 rfl ?_
  refine ww_aload_n C dX4_stepped_24 1 rfl ?_
  refine gt_X4_25 C dX4_stepped_25 ?_
  refine ww_iconst C dX4_stepped_28 ?_
  refine ww_iload_n C dX4_stepped_29 2 rfl ?_
  refine ww_imul C dX4_stepped_30 ?_
  refine ww_iconst C dX4_stepped_31 ?_
  refine ww_iadd C dX4_stepped_32 ?_
  refine al_4 C (3 * v + 1) (z := M 4 (3 * v + 1)) (by omega) (by omega) rfl dX4_stepped_33 ?_
  refine ww_imul C dX4_stepped_34 ?_
  refine ww_iadd C dX4_stepped_35 ?_
  refine ww_istore C dX4_stepped_36 (lv' := [(5, .int (iZ ((((p / 8) % 8 : Nat) : Int) + (sg * (M 4 (3 * v + 1)))))), (4, .int (iZ (((p / 64 : Nat) : Int) + (sg * (M 4 (3 * v)))))), (0, .ref (wa w 1)), (1, .int (iZ ((v : Nat) : Int))), (2, .int (iZ ((p : Nat) : Int))), (3, .int (iZ sg))]) (by rw [hkL]; decide) rfl ?_
  refine ww_iload_n C dX4_stepped_38 4 rfl ?_
  refine ww_bipush C dX4_stepped_39 (by decide) ?_
  refine ww_iand7 C dX4_stepped_41 p rfl (by omega) ?_
  refine ww_iload_n C dX4_stepped_42 5 rfl ?_
  refine ww_aload_n C dX4_stepped_43 2 rfl ?_
  refine gt_X4_25 C dX4_stepped_44 ?_
  refine ww_iconst C dX4_stepped_47 ?_
  refine ww_iload_n C dX4_stepped_48 3 rfl ?_
  refine ww_imul C dX4_stepped_49 ?_
  refine ww_iconst C dX4_stepped_50 ?_
  refine ww_iadd C dX4_stepped_51 ?_
  refine al_4 C (3 * v + 2) (z := M 4 (3 * v + 2)) (by omega) (by omega) rfl dX4_stepped_52 ?_
  refine ww_imul C dX4_stepped_53 ?_
  refine ww_iadd C dX4_stepped_54 ?_
  refine ww_istore C dX4_stepped_55 (lv' := [(6, .int (iZ (((p % 8 : Nat) : Int) + (sg * (M 4 (3 * v + 2)))))), (5, .int (iZ ((((p / 8) % 8 : Nat) : Int) + (sg * (M 4 (3 * v + 1)))))), (4, .int (iZ (((p / 64 : Nat) : Int) + (sg * (M 4 (3 * v)))))), (0, .ref (wa w 1)), (1, .int (iZ ((v : Nat) : Int))), (2, .int (iZ ((p : Nat) : Int))), (3, .int (iZ sg))]) (by rw [hkL]; decide) rfl ?_
  refine ww_aload_n C dX4_stepped_57 3 rfl ?_
  refine ww_iload C dX4_stepped_58 2 rfl ?_
  refine ww_iload C dX4_stepped_60 1 rfl ?_
  refine ww_iload C dX4_stepped_62 0 rfl ?_
  refine ww_callV C (As := [.int (iZ (((p / 64 : Nat) : Int) + (sg * (M 4 (3 * v))))), .int (iZ ((((p / 8) % 8 : Nat) : Int) + (sg * (M 4 (3 * v + 1))))), .int (iZ (((p % 8 : Nat) : Int) + (sg * (M 4 (3 * v + 2)))))]) 1 (by decide) (ct_X4_codeOf w M (((p / 64 : Nat) : Int) + (sg * (M 4 (3 * v)))) ((((p / 8) % 8 : Nat) : Int) + (sg * (M 4 (3 * v + 1)))) (((p % 8 : Nat) : Int) + (sg * (M 4 (3 * v + 2)))) (by omega) (by omega) (by omega) (by omega)) mf_X4_codeOf ml_X4_47 rfl rfl (by decide) rfl rfl (Nat.le_of_ble_eq_true rfl) dX4_stepped_64 (fun z_64 M_64 hp_64 => ?_)
  rw [hp_64.1, hp_64.2]
  exact RT _ _ _ _ dX4_stepped_67 (⟨rfl, rfl⟩)
set_option maxRecDepth 100000 in
set_option maxHeartbeats 4000000 in
theorem ct_X4_setAct (w : WLD) (M : Mem) (v : Nat) (a l r : Int) (hv : v < 4) : CtV w yX4_setAct cX4_setAct 5 rm_X4_setAct [.ref (wa w 1), .int (iZ ((v : Nat) : Int)), .int (iZ a), .int (iZ l), .int (iZ r)] M (fun M1 => M1 = ups (ups (ups (ups M 5 (up1 (M 5) v a)) 6 (up1 (M 6) v l)) 7 (up1 (M 7) v r)) 1 (up1 (M 1) 10 0)) := by
  refine CtV.of (by decide) (Nat.le_of_ble_eq_true rfl) rfl rfl ?_
  intro k hkL C RT
  show WW w k 0 [(0, .ref (wa w 1)), (1, .int (iZ ((v : Nat) : Int))), (2, .int (iZ a)), (3, .int (iZ l)), (4, .int (iZ r))] [] M
  refine ww_aload_n C dX4_setAct_0 0 rfl ?_
  refine gt_X4_28 C dX4_setAct_1 ?_
  refine ww_iload_n C dX4_setAct_4 1 rfl ?_
  refine ww_iload_n C dX4_setAct_5 2 rfl ?_
  refine as_5 C v rfl (by omega) dX4_setAct_6 ?_
  refine ww_aload_n C dX4_setAct_7 0 rfl ?_
  refine gt_X4_31 C dX4_setAct_8 ?_
  refine ww_iload_n C dX4_setAct_11 1 rfl ?_
  refine ww_iload_n C dX4_setAct_12 3 rfl ?_
  refine as_6 C v rfl (by omega) dX4_setAct_13 ?_
  refine ww_mem (M1 := ups (ups M 5 (up1 (M 5) v a)) 6 (up1 (M 6) v l)) rfl ?_
  refine ww_aload_n C dX4_setAct_14 0 rfl ?_
  refine gt_X4_34 C dX4_setAct_15 ?_
  refine ww_iload_n C dX4_setAct_18 1 rfl ?_
  refine ww_iload C dX4_setAct_19 4 rfl ?_
  refine as_7 C v rfl (by omega) dX4_setAct_21 ?_
  refine ww_mem (M1 := ups (ups (ups M 5 (up1 (M 5) v a)) 6 (up1 (M 6) v l)) 7 (up1 (M 7) v r)) rfl ?_
  refine ww_aload_n C dX4_setAct_22 0 rfl ?_
  refine ww_iconst C dX4_setAct_23 ?_
  refine pt_X4_43 C (by decide) dX4_setAct_24 ?_
  refine ww_mem (M1 := ups (ups (ups (ups M 5 (up1 (M 5) v a)) 6 (up1 (M 6) v l)) 7 (up1 (M 7) v r)) 1 (up1 (M 1) 10 0)) rfl ?_
  exact RT _ _ _ dX4_setAct_27 (rfl)
set_option maxRecDepth 100000 in
set_option maxHeartbeats 4000000 in
theorem ct_X4_setEdge (w : WLD) (M : Mem) (v p : Nat) (z : Int) (hv : v < 4) (hp : p < 512) : CtV w yX4_setEdge cX4_setEdge 4 rm_X4_setEdge [.ref (wa w 1), .int (iZ ((v : Nat) : Int)), .int (iZ ((p : Nat) : Int)), .int (iZ z)] M (fun M1 => M1 = ups (ups M 8 (up1 (M 8) (512 * v + p) z)) 1 (up1 (M 1) 10 0)) := by
  refine CtV.of (by decide) (Nat.le_of_ble_eq_true rfl) rfl rfl ?_
  intro k hkL C RT
  show WW w k 0 [(0, .ref (wa w 1)), (1, .int (iZ ((v : Nat) : Int))), (2, .int (iZ ((p : Nat) : Int))), (3, .int (iZ z))] [] M
  refine ww_aload_n C dX4_setEdge_0 0 rfl ?_
  refine gt_X4_37 C dX4_setEdge_1 ?_
  refine ww_iload_n C dX4_setEdge_4 1 rfl ?_
  refine ww_sipush C dX4_setEdge_5 (by decide) ?_
  refine ww_imul C dX4_setEdge_8 ?_
  refine ww_iload_n C dX4_setEdge_9 2 rfl ?_
  refine ww_iadd C dX4_setEdge_10 ?_
  refine ww_iload_n C dX4_setEdge_11 3 rfl ?_
  refine as_8 C (512 * v + p) (by omega) (by omega) dX4_setEdge_12 ?_
  refine ww_aload_n C dX4_setEdge_13 0 rfl ?_
  refine ww_iconst C dX4_setEdge_14 ?_
  refine pt_X4_43 C (by decide) dX4_setEdge_15 ?_
  refine ww_mem (M1 := ups (ups M 8 (up1 (M 8) (512 * v + p) z)) 1 (up1 (M 1) 10 0)) rfl ?_
  exact RT _ _ _ dX4_setEdge_18 (rfl)
set_option maxRecDepth 100000 in
set_option maxHeartbeats 4000000 in
theorem ct_X4_addVariable (w : WLD) (M : Mem) (v : Nat) (a b c : Int) (hv : v < 4) (hn : M 1 3 = (v : Int)) : CtI w yX4_addVariable cX4_addVariable 5 (some .int) rm_X4_addVariable [.ref (wa w 1), .int (iZ a), .int (iZ b), .int (iZ c)] M (fun z M1 => z = (v : Int) ∧ M1 = ups (ups (ups (ups (ups M 1 (up1 (up1 (M 1) 3 ((v + 1 : Nat) : Int)) 10 0)) 4 (up1 (up1 (up1 (M 4) (3 * v) a) (3 * v + 1) b) (3 * v + 2) c)) 5 (up1 (M 5) v 0)) 6 (up1 (M 6) v 0)) 7 (up1 (M 7) v 0)) := by
  refine CtI.of (by decide) (Nat.le_of_ble_eq_true rfl) rfl rfl ?_
  intro k hkL C RT
  show WW w k 0 [(0, .ref (wa w 1)), (1, .int (iZ a)), (2, .int (iZ b)), (3, .int (iZ c))] [] M
  refine ww_aload_n C dX4_addVariable_0 0 rfl ?_
  refine gt_X4_22 C dX4_addVariable_1 ?_
  refine ww_top (b := ((v : Nat) : Int)) (hn) ?_
  refine ww_istore C dX4_addVariable_4 (lv' := [(4, .int (iZ ((v : Nat) : Int))), (0, .ref (wa w 1)), (1, .int (iZ a)), (2, .int (iZ b)), (3, .int (iZ c))]) (by rw [hkL]; decide) rfl ?_
  refine ww_aload_n C dX4_addVariable_6 1 rfl ?_
  refine ww_dup C dX4_addVariable_7 rfl ?_
  refine gt_X4_22 C dX4_addVariable_8 ?_
  refine ww_top (b := ((v : Nat) : Int)) (hn) ?_
  refine ww_iconst C dX4_addVariable_11 ?_
  refine ww_iadd C dX4_addVariable_12 ?_
  refine ww_top (b := ((v + 1 : Nat) : Int)) (by omega) ?_
  refine pt_X4_22 C dX4_addVariable_13 ?_
  refine ww_aload_n C dX4_addVariable_16 1 rfl ?_
  refine gt_X4_25 C dX4_addVariable_17 ?_
  refine ww_iconst C dX4_addVariable_20 ?_
  refine ww_iload C dX4_addVariable_21 0 rfl ?_
  refine ww_imul C dX4_addVariable_23 ?_
  refine ww_iload_n C dX4_addVariable_24 2 rfl ?_
  refine as_4 C (3 * v) (by omega) (by omega) dX4_addVariable_25 ?_
  refine ww_mem (M1 := ups (ups M 1 (up1 (M 1) 3 ((v + 1 : Nat) : Int))) 4 (up1 (M 4) (3 * v) a)) rfl ?_
  refine ww_aload_n C dX4_addVariable_26 1 rfl ?_
  refine gt_X4_25 C dX4_addVariable_27 ?_
  refine ww_iconst C dX4_addVariable_30 ?_
  refine ww_iload C dX4_addVariable_31 0 rfl ?_
  refine ww_imul C dX4_addVariable_33 ?_
  refine ww_iconst C dX4_addVariable_34 ?_
  refine ww_iadd C dX4_addVariable_35 ?_
  refine ww_iload_n C dX4_addVariable_36 3 rfl ?_
  refine as_4 C (3 * v + 1) (by omega) (by omega) dX4_addVariable_37 ?_
  refine ww_mem (M1 := ups (ups M 1 (up1 (M 1) 3 ((v + 1 : Nat) : Int))) 4 (up1 (up1 (M 4) (3 * v) a) (3 * v + 1) b)) (ups_ups) ?_
  refine ww_aload_n C dX4_addVariable_38 1 rfl ?_
  refine gt_X4_25 C dX4_addVariable_39 ?_
  refine ww_iconst C dX4_addVariable_42 ?_
  refine ww_iload C dX4_addVariable_43 0 rfl ?_
  refine ww_imul C dX4_addVariable_45 ?_
  refine ww_iconst C dX4_addVariable_46 ?_
  refine ww_iadd C dX4_addVariable_47 ?_
  refine ww_iload_n C dX4_addVariable_48 4 rfl ?_
  refine as_4 C (3 * v + 2) (by omega) (by omega) dX4_addVariable_49 ?_
  refine ww_mem (M1 := ups (ups M 1 (up1 (M 1) 3 ((v + 1 : Nat) : Int))) 4 (up1 (up1 (up1 (M 4) (3 * v) a) (3 * v + 1) b) (3 * v + 2) c)) (ups_ups) ?_
  refine ww_aload_n C dX4_addVariable_50 1 rfl ?_
  refine ww_iload C dX4_addVariable_51 0 rfl ?_
  refine ww_iconst C dX4_addVariable_53 ?_
  refine ww_iconst C dX4_addVariable_54 ?_
  refine ww_iconst C dX4_addVariable_55 ?_
  refine ww_callVV C (As := [.int (iZ ((v : Nat) : Int)), .int (iZ 0), .int (iZ 0), .int (iZ 0)]) 1 (by decide) (ct_X4_setAct w (ups (ups M 1 (up1 (M 1) 3 ((v + 1 : Nat) : Int))) 4 (up1 (up1 (up1 (M 4) (3 * v) a) (3 * v + 1) b) (3 * v + 2) c)) v 0 0 0 (show v < 4 from by omega)) mf_X4_setAct ml_X4_57 rfl rfl (by decide) rfl rfl (Nat.le_of_ble_eq_true rfl) dX4_addVariable_56 (fun M_56 hp_56 => ?_)
  rw [hp_56]
  refine ww_mem (M1 := ups (ups (ups (ups (ups M 1 (up1 (up1 (M 1) 3 ((v + 1 : Nat) : Int)) 10 0)) 4 (up1 (up1 (up1 (M 4) (3 * v) a) (3 * v + 1) b) (3 * v + 2) c)) 5 (up1 (M 5) v 0)) 6 (up1 (M 6) v 0)) 7 (up1 (M 7) v 0)) ((ups_comm (by decide)).trans (congrArg (fun X9 => ups X9 7 (up1 (M 7) v 0)) ((ups_comm (by decide)).trans (congrArg (fun X9 => ups X9 6 (up1 (M 6) v 0)) ((ups_comm (by decide)).trans (congrArg (fun X9 => ups X9 5 (up1 (M 5) v 0)) ((ups_comm (by decide)).trans (congrArg (fun X9 => ups X9 4 (up1 (up1 (up1 (M 4) (3 * v) a) (3 * v + 1) b) (3 * v + 2) c)) ups_ups)))))))) ?_
  refine ww_iload C dX4_addVariable_59 0 rfl ?_
  exact RT _ _ _ _ dX4_addVariable_61 (⟨by first | rfl | omega, rfl⟩)
set_option maxRecDepth 100000 in
set_option maxHeartbeats 4000000 in
theorem ct_X4_dropVariables (w : WLD) (M : Mem)  : CtV w yX4_dropVariables cX4_dropVariables 1 rm_X4_dropVariables [.ref (wa w 1)] M (fun M1 => M1 = ups (ups M 1 (up1 (up1 (M 1) 3 0) 10 0)) 8 (fil 2048 0 (M 8))) := by
  refine CtV.of (by decide) (Nat.le_of_ble_eq_true rfl) rfl rfl ?_
  intro k hkL C RT
  show WW w k 0 [(0, .ref (wa w 1))] [] M
  refine ww_aload_n C dX4_dropVariables_0 0 rfl ?_
  refine ww_iconst C dX4_dropVariables_1 ?_
  refine pt_X4_22 C dX4_dropVariables_2 ?_
  refine ww_aload_n C dX4_dropVariables_5 0 rfl ?_
  refine gt_X4_37 C dX4_dropVariables_6 ?_
  refine ww_iconst C dX4_dropVariables_9 ?_
  refine ww_callSV C (As := [.ref (wa w 8), .int (iZ 0)]) (ct_J7_fill_53178 w (ups M 1 (up1 (M 1) 3 0)) 8 2048 0 (show 8 < 44 from by decide) (fun _ => rfl) (show 2048 < 2147483648 from by decide)) mf_J7_fill_53178 ml_X4_51 (by decide) rfl rfl (Nat.le_of_ble_eq_true rfl) dX4_dropVariables_10 (fun M_10 hp_10 => ?_)
  rw [hp_10]
  refine ww_mem (M1 := ups (ups M 1 (up1 (M 1) 3 0)) 8 (fil 2048 0 ((ups M 1 (up1 (M 1) 3 0)) 8))) rfl ?_
  refine ww_aload_n C dX4_dropVariables_13 0 rfl ?_
  refine ww_iconst C dX4_dropVariables_14 ?_
  refine pt_X4_43 C (by decide) dX4_dropVariables_15 ?_
  refine ww_mem (M1 := ups (ups M 1 (up1 (up1 (M 1) 3 0) 10 0)) 8 (fil 2048 0 ((ups M 1 (up1 (M 1) 3 0)) 8))) (((ups_comm (by decide)).trans (congrArg (fun X9 => ups X9 8 (fil 2048 0 ((ups M 1 (up1 (M 1) 3 0)) 8))) ups_ups))) ?_
  exact RT _ _ _ dX4_dropVariables_18 (rfl)
set_option maxRecDepth 100000 in
set_option maxHeartbeats 4000000 in
theorem ct_X4_made (w : WLD) (M : Mem) (act own a b : Int) (ha : 0 ≤ act ∧ act ≤ 7) (h1 : R32 own) (h2 : R32 a) (h3 : R32 b) : CtI w yX4_made cX4_made 4 (some .int) rm_X4_made [.int (iZ act), .int (iZ own), .int (iZ a), .int (iZ b)] M (fun z M1 => z = madeZ act own a b ∧ M1 = M) := by
  refine CtI.of (by decide) (Nat.le_of_ble_eq_true rfl) rfl rfl ?_
  intro k hkL C RT
  have q2 := nrm_R (a + b)
  show WW w k 0 [(0, .int (iZ act)), (1, .int (iZ own)), (2, .int (iZ a)), (3, .int (iZ b))] [] M
  refine ww_iload_n C dX4_made_0 0 rfl ?_
  rcases Classical.em (1 ≤ act ∧ act ≤ 7) with ht_1 | ht_1
  · rcases (show act = 1 ∨ act = 2 ∨ act = 3 ∨ act = 4 ∨ act = 5 ∨ act = 6 ∨ act = 7 by omega) with ht_1 | ht_1 | ht_1 | ht_1 | ht_1 | ht_1 | ht_1
    · refine ww_tabIn C 44 1 dX4_made_1 ht_1 (by decide) (by decide) rfl (by decide) ?_
      refine ww_iload_n C dX4_made_44 1 rfl ?_
      refine ww_iload_n C dX4_made_45 2 rfl ?_
      refine ww_iload_n C dX4_made_46 3 rfl ?_
      refine ww_imul C dX4_made_47 ?_
      refine ww_iadd C dX4_made_48 ?_
      refine ww_topI (b := nrm (own + a * b)) ((iZ_nrm _).symm) ?_
      exact RT _ _ _ _ dX4_made_49 (⟨by unfold madeZ; simp [*], rfl⟩)
    · refine ww_tabIn C 50 2 dX4_made_1 ht_1 (by decide) (by decide) rfl (by decide) ?_
      refine ww_iload_n C dX4_made_50 1 rfl ?_
      refine ww_iload_n C dX4_made_51 2 rfl ?_
      refine ww_iload_n C dX4_made_52 3 rfl ?_
      refine ww_iadd C dX4_made_53 ?_
      refine ww_topI (b := nrm (a + b)) ((iZ_nrm _).symm) ?_
      refine ww_min C ml_X4_78 (by omega) (by omega) (by decide) (Nat.le_of_ble_eq_true rfl) dX4_made_54 ?_
      exact RT _ _ _ _ dX4_made_57 (⟨by unfold madeZ; simp [*], rfl⟩)
    · refine ww_tabIn C 58 3 dX4_made_1 ht_1 (by decide) (by decide) rfl (by decide) ?_
      refine ww_iload_n C dX4_made_58 2 rfl ?_
      refine ww_iload_n C dX4_made_59 3 rfl ?_
      refine ww_min C ml_X4_78 (by omega) (by omega) (by decide) (Nat.le_of_ble_eq_true rfl) dX4_made_60 ?_
      exact RT _ _ _ _ dX4_made_63 (⟨by unfold madeZ; simp [*], rfl⟩)
    · refine ww_tabIn C 64 4 dX4_made_1 ht_1 (by decide) (by decide) rfl (by decide) ?_
      refine ww_iload_n C dX4_made_64 2 rfl ?_
      refine ww_iload_n C dX4_made_65 3 rfl ?_
      refine ww_max C ml_X4_82 (by omega) (by omega) (by decide) (Nat.le_of_ble_eq_true rfl) dX4_made_66 ?_
      exact RT _ _ _ _ dX4_made_69 (⟨by unfold madeZ; simp [*], rfl⟩)
    · refine ww_tabIn C 70 5 dX4_made_1 ht_1 (by decide) (by decide) rfl (by decide) ?_
      refine ww_iload_n C dX4_made_70 2 rfl ?_
      refine ww_iload_n C dX4_made_71 3 rfl ?_
      refine ww_iadd C dX4_made_72 ?_
      refine ww_topI (b := nrm (a + b)) ((iZ_nrm _).symm) ?_
      exact RT _ _ _ _ dX4_made_73 (⟨by unfold madeZ; simp [*], rfl⟩)
    · refine ww_tabIn C 74 6 dX4_made_1 ht_1 (by decide) (by decide) rfl (by decide) ?_
      refine ww_iload_n C dX4_made_74 2 rfl ?_
      refine ww_iload_n C dX4_made_75 3 rfl ?_
      refine ww_isub C dX4_made_76 ?_
      refine ww_topI (b := nrm (a - b)) ((iZ_nrm _).symm) ?_
      exact RT _ _ _ _ dX4_made_77 (⟨by unfold madeZ; simp [*], rfl⟩)
    · refine ww_tabIn C 78 7 dX4_made_1 ht_1 (by decide) (by decide) rfl (by decide) ?_
      refine ww_iload_n C dX4_made_78 2 rfl ?_
      refine ww_iload_n C dX4_made_79 3 rfl ?_
      refine ww_ixor C dX4_made_80 ?_
      exact RT _ _ _ _ dX4_made_81 (⟨by unfold madeZ; simp [*], rfl⟩)
  · refine ww_tabOut C 82 dX4_made_1 (by omega) (by omega) (by decide) ?_
    refine ww_iload_n C dX4_made_82 1 rfl ?_
    exact RT _ _ _ _ dX4_made_83 (⟨by unfold madeZ; rw [if_neg (by omega), if_neg (by omega), if_neg (by omega), if_neg (by omega), if_neg (by omega), if_neg (by omega), if_neg (by omega)], rfl⟩)
set_option maxRecDepth 100000 in
set_option maxHeartbeats 4000000 in
theorem ct_X4_comes_9 (w : WLD) (M : Mem) (v p : Nat) (hv : v < 4) (hp : p < 512) (hs : SzOk (M 2)) (hst : StOk (M 4)) : CtI w yX4_comes cX4_comes 5 (some .int) rm_X4_comes [.ref (wa w 1), .ref (wa w 9), .int (iZ ((v : Nat) : Int)), .int (iZ ((p : Nat) : Int))] M (fun z M1 => z = comeZ (M 2) (M 4) (M 8) (M 9) v p ∧ M1 = M) := by
  refine CtI.of (by decide) (Nat.le_of_ble_eq_true rfl) rfl rfl ?_
  intro k hkL C RT
  have hb := stepZ_b (sz := M 2) (st := M 4) (v := v) (p := p) (sg := -1) hs
  show WW w k 0 [(0, .ref (wa w 1)), (1, .ref (wa w 9)), (2, .int (iZ ((v : Nat) : Int))), (3, .int (iZ ((p : Nat) : Int)))] [] M
  refine ww_aload_n C dX4_comes_0 0 rfl ?_
  refine ww_iload_n C dX4_comes_1 2 rfl ?_
  refine ww_iload_n C dX4_comes_2 3 rfl ?_
  refine ww_iconst C dX4_comes_3 ?_
  refine ww_callV C (As := [.int (iZ ((v : Nat) : Int)), .int (iZ ((p : Nat) : Int)), .int (iZ (-1))]) 1 (by decide) (ct_X4_stepped w M v p (-1) (by omega) (by omega) (by omega) (by omega) (by omega)) mf_X4_stepped ml_X4_75 rfl rfl (by decide) rfl rfl (Nat.le_of_ble_eq_true rfl) dX4_comes_4 (fun z_4 M_4 hp_4 => ?_)
  rw [hp_4.1, hp_4.2]
  refine ww_istore C dX4_comes_7 (lv' := [(4, .int (iZ (stepZ ((M 2)) ((M 4)) v p (-1)))), (0, .ref (wa w 1)), (1, .ref (wa w 9)), (2, .int (iZ ((v : Nat) : Int))), (3, .int (iZ ((p : Nat) : Int)))]) (by rw [hkL]; decide) rfl ?_
  refine ww_iload C dX4_comes_9 0 rfl ?_
  refine ww_iconst C dX4_comes_11 ?_
  refine ww_icmp_ne C 30 dX4_comes_12 (by decide) (by omega) (by omega) (fun c_12 => ?_) (fun c_12 => ?_)
  · refine ww_aload_n C dX4_comes_30 2 rfl ?_
    refine ww_iload_n C dX4_comes_31 3 rfl ?_
    refine ww_sipush C dX4_comes_32 (by decide) ?_
    refine ww_imul C dX4_comes_35 ?_
    refine ww_iload C dX4_comes_36 0 rfl ?_
    refine ww_iadd C dX4_comes_38 ?_
    refine al_9 C (512 * v + (stepZ (M 2) (M 4) v p (-1)).toNat) (z := M 9 (512 * v + (stepZ (M 2) (M 4) v p (-1)).toNat)) (by omega) (by omega) rfl dX4_comes_39 ?_
    exact RT _ _ _ _ dX4_comes_40 (⟨by unfold comeZ; first | exact (if_pos (by omega)).symm | exact (if_neg (by omega)).symm, rfl⟩)
  · refine ww_aload_n C dX4_comes_15 1 rfl ?_
    refine gt_X4_37 C dX4_comes_16 ?_
    refine ww_iload_n C dX4_comes_19 3 rfl ?_
    refine ww_sipush C dX4_comes_20 (by decide) ?_
    refine ww_imul C dX4_comes_23 ?_
    refine ww_iload_n C dX4_comes_24 4 rfl ?_
    refine ww_iadd C dX4_comes_25 ?_
    refine al_8 C (512 * v + p) (z := M 8 (512 * v + p)) (by omega) (by omega) rfl dX4_comes_26 ?_
    refine ww_goto C 40 dX4_comes_27 (by decide) ?_
    exact RT _ _ _ _ dX4_comes_40 (⟨by unfold comeZ; first | exact (if_pos (by omega)).symm | exact (if_neg (by omega)).symm, rfl⟩)
set_option maxRecDepth 100000 in
set_option maxHeartbeats 4000000 in
theorem ct_X4_workPoint_9 (w : WLD) (M : Mem) (nv p : Nat) (hp : p < 512) (hnv : M 1 3 = (nv : Int)) (hn4 : nv ≤ 4) (hs : SzOk (M 2)) (hst : StOk (M 4)) (hac : ∀ v : Nat, v < nv → 0 ≤ M 5 v ∧ M 5 v ≤ 7) (hlf : ∀ v : Nat, v < nv → 0 ≤ M 6 v ∧ M 6 v < nv) (hrt : ∀ v : Nat, v < nv → 0 ≤ M 7 v ∧ M 7 v < nv) (hed : ∀ q : Nat, R32 (M 8 q)) (har : ∀ q : Nat, R32 (M 9 q)) : CtV w yX4_workPoint cX4_workPoint 7 rm_X4_workPoint [.ref (wa w 1), .ref (wa w 9), .int (iZ ((p : Nat) : Int))] M (fun M1 => M1 = ups M 9 (wkA (M 2) (M 4) (M 5) (M 6) (M 7) (M 8) (M 9) p nv)) := by
  refine CtV.of (by decide) (Nat.le_of_ble_eq_true rfl) rfl rfl ?_
  intro k hkL C RT
  show WW w k 0 [(0, .ref (wa w 1)), (1, .ref (wa w 9)), (2, .int (iZ ((p : Nat) : Int)))] [] M
  refine ww_iconst C dX4_workPoint_0 ?_
  refine ww_istore_n C dX4_workPoint_1 (lv' := [(3, .int (iZ 0)), (0, .ref (wa w 1)), (1, .ref (wa w 9)), (2, .int (iZ ((p : Nat) : Int)))]) (by rw [hkL]; decide) rfl ?_
  have L_2 : ∀ (fuel : Nat) (t : Nat) (ht : t ≤ nv), nv - t < fuel → WW w k 2 [(0, .ref (wa w 1)), (1, .ref (wa w 9)), (2, .int (iZ ((p : Nat) : Int))), (3, .int (iZ ((t : Nat) : Int)))] [] (ups M 9 (wkA (M 2) (M 4) (M 5) (M 6) (M 7) (M 8) (M 9) p t)) := by
    intro fuel
    induction fuel with
    | zero => intro t ht hf_2; exact absurd hf_2 (Nat.not_lt_zero _)
    | succ fuel ih_2 =>
      intro t ht hf_2
      have har2 : ∀ q : Nat, R32 (wkA (M 2) (M 4) (M 5) (M 6) (M 7) (M 8) (M 9) p t q) := wkA_R hed har t
      have hc : ∀ v : Nat, R32 (comeZ (M 2) (M 4) (M 8) (wkA (M 2) (M 4) (M 5) (M 6) (M 7) (M 8) (M 9) p t) v p) := fun v => comeZ_R hed har2
      have hlf1 := hlf t
      have hrt1 := hrt t
      have hac1 := hac t
      refine ww_iload_n C dX4_workPoint_2 3 rfl ?_
      refine ww_aload_n C dX4_workPoint_3 0 rfl ?_
      refine gt_X4_22 C dX4_workPoint_4 ?_
      refine ww_top (b := ((nv : Nat) : Int)) (hnv) ?_
      refine ww_icmp_ge C 77 dX4_workPoint_7 (by decide) (by omega) (by omega) (fun c_7 => ?_) (fun c_7 => ?_)
      · exact RT _ _ _ dX4_workPoint_77 (by rw [show t = nv by omega])
      · refine ww_aload_n C dX4_workPoint_10 0 rfl ?_
        refine ww_aload_n C dX4_workPoint_11 1 rfl ?_
        refine ww_iload_n C dX4_workPoint_12 3 rfl ?_
        refine ww_iload_n C dX4_workPoint_13 2 rfl ?_
        refine ww_callV C (As := [.ref (wa w 9), .int (iZ ((t : Nat) : Int)), .int (iZ ((p : Nat) : Int))]) 1 (by decide) (ct_X4_comes_9 w (ups M 9 (wkA (M 2) (M 4) (M 5) (M 6) (M 7) (M 8) (M 9) p t)) t p (show t < 4 from by omega) (show p < 512 from by omega) (show SzOk ((M 2)) from hs) (show StOk ((M 4)) from hst)) mf_X4_comes ml_X4_67 rfl rfl (by decide) rfl rfl (Nat.le_of_ble_eq_true rfl) dX4_workPoint_14 (fun z_14 M_14 hp_14 => ?_)
        rw [hp_14.1, hp_14.2]
        refine ww_top (b := comeZ ((M 2)) ((M 4)) ((M 8)) ((wkA (M 2) (M 4) (M 5) (M 6) (M 7) (M 8) (M 9) p t)) t p) rfl ?_
        refine ww_istore C dX4_workPoint_17 (lv' := [(4, .int (iZ (comeZ ((M 2)) ((M 4)) ((M 8)) ((wkA (M 2) (M 4) (M 5) (M 6) (M 7) (M 8) (M 9) p t)) t p))), (0, .ref (wa w 1)), (1, .ref (wa w 9)), (2, .int (iZ ((p : Nat) : Int))), (3, .int (iZ ((t : Nat) : Int)))]) (by rw [hkL]; decide) rfl ?_
        refine ww_aload_n C dX4_workPoint_19 1 rfl ?_
        refine ww_aload_n C dX4_workPoint_20 2 rfl ?_
        refine ww_aload_n C dX4_workPoint_21 1 rfl ?_
        refine gt_X4_31 C dX4_workPoint_22 ?_
        refine ww_iload_n C dX4_workPoint_25 4 rfl ?_
        refine al_6 C t (z := (((M 6 t).toNat : Nat) : Int)) rfl (by omega) (show M 6 t = _ from by have := hlf1 (by omega); omega) dX4_workPoint_26 ?_
        refine ww_iload_n C dX4_workPoint_27 3 rfl ?_
        refine ww_callV C (As := [.ref (wa w 9), .int (iZ (((M 6 t).toNat : Nat) : Int)), .int (iZ ((p : Nat) : Int))]) 1 (by decide) (ct_X4_comes_9 w (ups M 9 (wkA (M 2) (M 4) (M 5) (M 6) (M 7) (M 8) (M 9) p t)) ((M 6 t).toNat) p (show ((M 6 t).toNat) < 4 from by have := hlf1 (by omega); omega) (show p < 512 from by omega) (show SzOk ((M 2)) from hs) (show StOk ((M 4)) from hst)) mf_X4_comes ml_X4_67 rfl rfl (by decide) rfl rfl (Nat.le_of_ble_eq_true rfl) dX4_workPoint_28 (fun z_28 M_28 hp_28 => ?_)
        rw [hp_28.1, hp_28.2]
        refine ww_top (b := comeZ ((M 2)) ((M 4)) ((M 8)) ((wkA (M 2) (M 4) (M 5) (M 6) (M 7) (M 8) (M 9) p t)) ((M 6 t).toNat) p) rfl ?_
        refine ww_istore C dX4_workPoint_31 (lv' := [(5, .int (iZ (comeZ ((M 2)) ((M 4)) ((M 8)) ((wkA (M 2) (M 4) (M 5) (M 6) (M 7) (M 8) (M 9) p t)) ((M 6 t).toNat) p))), (4, .int (iZ (comeZ ((M 2)) ((M 4)) ((M 8)) ((wkA (M 2) (M 4) (M 5) (M 6) (M 7) (M 8) (M 9) p t)) t p))), (0, .ref (wa w 1)), (1, .ref (wa w 9)), (2, .int (iZ ((p : Nat) : Int))), (3, .int (iZ ((t : Nat) : Int)))]) (by rw [hkL]; decide) rfl ?_
        refine ww_aload_n C dX4_workPoint_33 2 rfl ?_
        refine ww_aload_n C dX4_workPoint_34 3 rfl ?_
        refine ww_aload_n C dX4_workPoint_35 2 rfl ?_
        refine gt_X4_34 C dX4_workPoint_36 ?_
        refine ww_iload_n C dX4_workPoint_39 5 rfl ?_
        refine al_7 C t (z := (((M 7 t).toNat : Nat) : Int)) rfl (by omega) (show M 7 t = _ from by have := hrt1 (by omega); omega) dX4_workPoint_40 ?_
        refine ww_iload_n C dX4_workPoint_41 4 rfl ?_
        refine ww_callV C (As := [.ref (wa w 9), .int (iZ (((M 7 t).toNat : Nat) : Int)), .int (iZ ((p : Nat) : Int))]) 1 (by decide) (ct_X4_comes_9 w (ups M 9 (wkA (M 2) (M 4) (M 5) (M 6) (M 7) (M 8) (M 9) p t)) ((M 7 t).toNat) p (show ((M 7 t).toNat) < 4 from by have := hrt1 (by omega); omega) (show p < 512 from by omega) (show SzOk ((M 2)) from hs) (show StOk ((M 4)) from hst)) mf_X4_comes ml_X4_67 rfl rfl (by decide) rfl rfl (Nat.le_of_ble_eq_true rfl) dX4_workPoint_42 (fun z_42 M_42 hp_42 => ?_)
        rw [hp_42.1, hp_42.2]
        refine ww_top (b := comeZ ((M 2)) ((M 4)) ((M 8)) ((wkA (M 2) (M 4) (M 5) (M 6) (M 7) (M 8) (M 9) p t)) ((M 7 t).toNat) p) rfl ?_
        refine ww_istore C dX4_workPoint_45 (lv' := [(6, .int (iZ (comeZ ((M 2)) ((M 4)) ((M 8)) ((wkA (M 2) (M 4) (M 5) (M 6) (M 7) (M 8) (M 9) p t)) ((M 7 t).toNat) p))), (5, .int (iZ (comeZ ((M 2)) ((M 4)) ((M 8)) ((wkA (M 2) (M 4) (M 5) (M 6) (M 7) (M 8) (M 9) p t)) ((M 6 t).toNat) p))), (4, .int (iZ (comeZ ((M 2)) ((M 4)) ((M 8)) ((wkA (M 2) (M 4) (M 5) (M 6) (M 7) (M 8) (M 9) p t)) t p))), (0, .ref (wa w 1)), (1, .ref (wa w 9)), (2, .int (iZ ((p : Nat) : Int))), (3, .int (iZ ((t : Nat) : Int)))]) (by rw [hkL]; decide) rfl ?_
        refine ww_aload_n C dX4_workPoint_47 4 rfl ?_
        refine ww_iload_n C dX4_workPoint_48 6 rfl ?_
        refine ww_sipush C dX4_workPoint_49 (by decide) ?_
        refine ww_imul C dX4_workPoint_52 ?_
        refine ww_iload_n C dX4_workPoint_53 5 rfl ?_
        refine ww_iadd C dX4_workPoint_54 ?_
        refine ww_aload_n C dX4_workPoint_55 3 rfl ?_
        refine gt_X4_28 C dX4_workPoint_56 ?_
        refine ww_iload_n C dX4_workPoint_59 6 rfl ?_
        refine al_5 C t (z := M 5 t) rfl (by omega) rfl dX4_workPoint_60 ?_
        refine ww_iload C dX4_workPoint_61 2 rfl ?_
        refine ww_iload C dX4_workPoint_63 1 rfl ?_
        refine ww_iload C dX4_workPoint_65 0 rfl ?_
        refine ww_callS C (As := [.int (iZ (M 5 t)), .int (iZ (comeZ ((M 2)) ((M 4)) ((M 8)) ((wkA (M 2) (M 4) (M 5) (M 6) (M 7) (M 8) (M 9) p t)) t p)), .int (iZ (comeZ ((M 2)) ((M 4)) ((M 8)) ((wkA (M 2) (M 4) (M 5) (M 6) (M 7) (M 8) (M 9) p t)) ((M 6 t).toNat) p)), .int (iZ (comeZ ((M 2)) ((M 4)) ((M 8)) ((wkA (M 2) (M 4) (M 5) (M 6) (M 7) (M 8) (M 9) p t)) ((M 7 t).toNat) p))]) (ct_X4_made w (ups M 9 (wkA (M 2) (M 4) (M 5) (M 6) (M 7) (M 8) (M 9) p t)) (M 5 t) (comeZ ((M 2)) ((M 4)) ((M 8)) ((wkA (M 2) (M 4) (M 5) (M 6) (M 7) (M 8) (M 9) p t)) t p) (comeZ ((M 2)) ((M 4)) ((M 8)) ((wkA (M 2) (M 4) (M 5) (M 6) (M 7) (M 8) (M 9) p t)) ((M 6 t).toNat) p) (comeZ ((M 2)) ((M 4)) ((M 8)) ((wkA (M 2) (M 4) (M 5) (M 6) (M 7) (M 8) (M 9) p t)) ((M 7 t).toNat) p) (show 0 ≤ (M 5 t) ∧ (M 5 t) ≤ 7 from hac1 (by omega)) (show R32 (comeZ ((M 2)) ((M 4)) ((M 8)) ((wkA (M 2) (M 4) (M 5) (M 6) (M 7) (M 8) (M 9) p t)) t p) from hc _) (show R32 (comeZ ((M 2)) ((M 4)) ((M 8)) ((wkA (M 2) (M 4) (M 5) (M 6) (M 7) (M 8) (M 9) p t)) ((M 6 t).toNat) p) from hc _) (show R32 (comeZ ((M 2)) ((M 4)) ((M 8)) ((wkA (M 2) (M 4) (M 5) (M 6) (M 7) (M 8) (M 9) p t)) ((M 7 t).toNat) p) from hc _)) mf_X4_made ml_X4_71 (by decide) rfl rfl (Nat.le_of_ble_eq_true rfl) dX4_workPoint_67 (fun z_67 M_67 hp_67 => ?_)
        rw [hp_67.1, hp_67.2]
        refine ww_top (b := madeZ (M 5 t) (comeZ ((M 2)) ((M 4)) ((M 8)) ((wkA (M 2) (M 4) (M 5) (M 6) (M 7) (M 8) (M 9) p t)) t p) (comeZ ((M 2)) ((M 4)) ((M 8)) ((wkA (M 2) (M 4) (M 5) (M 6) (M 7) (M 8) (M 9) p t)) ((M 6 t).toNat) p) (comeZ ((M 2)) ((M 4)) ((M 8)) ((wkA (M 2) (M 4) (M 5) (M 6) (M 7) (M 8) (M 9) p t)) ((M 7 t).toNat) p)) rfl ?_
        refine as_9 C (512 * t + p) (by omega) (by omega) dX4_workPoint_70 ?_
        refine ww_mem (M1 := ups M 9 (wkA (M 2) (M 4) (M 5) (M 6) (M 7) (M 8) (M 9) p (t + 1))) (by rw [ups_ups]; rfl) ?_
        refine ww_iinc2 C dX4_workPoint_71 6 rfl (b := ((t + 1 : Nat) : Int)) (by omega) (lv' := [(3, .int (iZ ((t + 1 : Nat) : Int))), (6, .int (iZ (comeZ ((M 2)) ((M 4)) ((M 8)) ((wkA (M 2) (M 4) (M 5) (M 6) (M 7) (M 8) (M 9) p t)) ((M 7 t).toNat) p))), (5, .int (iZ (comeZ ((M 2)) ((M 4)) ((M 8)) ((wkA (M 2) (M 4) (M 5) (M 6) (M 7) (M 8) (M 9) p t)) ((M 6 t).toNat) p))), (4, .int (iZ (comeZ ((M 2)) ((M 4)) ((M 8)) ((wkA (M 2) (M 4) (M 5) (M 6) (M 7) (M 8) (M 9) p t)) t p))), (0, .ref (wa w 1)), (1, .ref (wa w 9)), (2, .int (iZ ((p : Nat) : Int)))]) (by rw [hkL]; decide) rfl ?_
        refine ww_goto C 2 dX4_workPoint_74 (by decide) ?_
        refine ww_sub [4, 5, 6, 0] rfl ?_
        exact ih_2 (t + 1) (by omega) (by omega)
  refine ww_sub [1, 2, 3, 0] rfl ?_
  refine ww_mem (M1 := ups M 9 (wkA (M 2) (M 4) (M 5) (M 6) (M 7) (M 8) (M 9) p 0)) ((ups_id (M := M)).symm) ?_
  exact L_2 _ 0 (by omega) (Nat.lt_succ_self _)
set_option maxRecDepth 100000 in
set_option maxHeartbeats 4000000 in
theorem ct_X4_comes_26 (w : WLD) (M : Mem) (v p : Nat) (hv : v < 4) (hp : p < 512) (hs : SzOk (M 2)) (hst : StOk (M 4)) : CtI w yX4_comes cX4_comes 5 (some .int) rm_X4_comes [.ref (wa w 1), .ref (wa w 26), .int (iZ ((v : Nat) : Int)), .int (iZ ((p : Nat) : Int))] M (fun z M1 => z = comeZ (M 2) (M 4) (M 8) (M 26) v p ∧ M1 = M) := by
  refine CtI.of (by decide) (Nat.le_of_ble_eq_true rfl) rfl rfl ?_
  intro k hkL C RT
  have hb := stepZ_b (sz := M 2) (st := M 4) (v := v) (p := p) (sg := -1) hs
  show WW w k 0 [(0, .ref (wa w 1)), (1, .ref (wa w 26)), (2, .int (iZ ((v : Nat) : Int))), (3, .int (iZ ((p : Nat) : Int)))] [] M
  refine ww_aload_n C dX4_comes_0 0 rfl ?_
  refine ww_iload_n C dX4_comes_1 2 rfl ?_
  refine ww_iload_n C dX4_comes_2 3 rfl ?_
  refine ww_iconst C dX4_comes_3 ?_
  refine ww_callV C (As := [.int (iZ ((v : Nat) : Int)), .int (iZ ((p : Nat) : Int)), .int (iZ (-1))]) 1 (by decide) (ct_X4_stepped w M v p (-1) (by omega) (by omega) (by omega) (by omega) (by omega)) mf_X4_stepped ml_X4_75 rfl rfl (by decide) rfl rfl (Nat.le_of_ble_eq_true rfl) dX4_comes_4 (fun z_4 M_4 hp_4 => ?_)
  rw [hp_4.1, hp_4.2]
  refine ww_istore C dX4_comes_7 (lv' := [(4, .int (iZ (stepZ ((M 2)) ((M 4)) v p (-1)))), (0, .ref (wa w 1)), (1, .ref (wa w 26)), (2, .int (iZ ((v : Nat) : Int))), (3, .int (iZ ((p : Nat) : Int)))]) (by rw [hkL]; decide) rfl ?_
  refine ww_iload C dX4_comes_9 0 rfl ?_
  refine ww_iconst C dX4_comes_11 ?_
  refine ww_icmp_ne C 30 dX4_comes_12 (by decide) (by omega) (by omega) (fun c_12 => ?_) (fun c_12 => ?_)
  · refine ww_aload_n C dX4_comes_30 2 rfl ?_
    refine ww_iload_n C dX4_comes_31 3 rfl ?_
    refine ww_sipush C dX4_comes_32 (by decide) ?_
    refine ww_imul C dX4_comes_35 ?_
    refine ww_iload C dX4_comes_36 0 rfl ?_
    refine ww_iadd C dX4_comes_38 ?_
    refine al_26 C (512 * v + (stepZ (M 2) (M 4) v p (-1)).toNat) (z := M 26 (512 * v + (stepZ (M 2) (M 4) v p (-1)).toNat)) (by omega) (by omega) rfl dX4_comes_39 ?_
    exact RT _ _ _ _ dX4_comes_40 (⟨by unfold comeZ; first | exact (if_pos (by omega)).symm | exact (if_neg (by omega)).symm, rfl⟩)
  · refine ww_aload_n C dX4_comes_15 1 rfl ?_
    refine gt_X4_37 C dX4_comes_16 ?_
    refine ww_iload_n C dX4_comes_19 3 rfl ?_
    refine ww_sipush C dX4_comes_20 (by decide) ?_
    refine ww_imul C dX4_comes_23 ?_
    refine ww_iload_n C dX4_comes_24 4 rfl ?_
    refine ww_iadd C dX4_comes_25 ?_
    refine al_8 C (512 * v + p) (z := M 8 (512 * v + p)) (by omega) (by omega) rfl dX4_comes_26 ?_
    refine ww_goto C 40 dX4_comes_27 (by decide) ?_
    exact RT _ _ _ _ dX4_comes_40 (⟨by unfold comeZ; first | exact (if_pos (by omega)).symm | exact (if_neg (by omega)).symm, rfl⟩)
set_option maxRecDepth 100000 in
set_option maxHeartbeats 4000000 in
theorem ct_X4_workPoint_26 (w : WLD) (M : Mem) (nv p : Nat) (hp : p < 512) (hnv : M 1 3 = (nv : Int)) (hn4 : nv ≤ 4) (hs : SzOk (M 2)) (hst : StOk (M 4)) (hac : ∀ v : Nat, v < nv → 0 ≤ M 5 v ∧ M 5 v ≤ 7) (hlf : ∀ v : Nat, v < nv → 0 ≤ M 6 v ∧ M 6 v < nv) (hrt : ∀ v : Nat, v < nv → 0 ≤ M 7 v ∧ M 7 v < nv) (hed : ∀ q : Nat, R32 (M 8 q)) (har : ∀ q : Nat, R32 (M 26 q)) : CtV w yX4_workPoint cX4_workPoint 7 rm_X4_workPoint [.ref (wa w 1), .ref (wa w 26), .int (iZ ((p : Nat) : Int))] M (fun M1 => M1 = ups M 26 (wkA (M 2) (M 4) (M 5) (M 6) (M 7) (M 8) (M 26) p nv)) := by
  refine CtV.of (by decide) (Nat.le_of_ble_eq_true rfl) rfl rfl ?_
  intro k hkL C RT
  show WW w k 0 [(0, .ref (wa w 1)), (1, .ref (wa w 26)), (2, .int (iZ ((p : Nat) : Int)))] [] M
  refine ww_iconst C dX4_workPoint_0 ?_
  refine ww_istore_n C dX4_workPoint_1 (lv' := [(3, .int (iZ 0)), (0, .ref (wa w 1)), (1, .ref (wa w 26)), (2, .int (iZ ((p : Nat) : Int)))]) (by rw [hkL]; decide) rfl ?_
  have L_2 : ∀ (fuel : Nat) (t : Nat) (ht : t ≤ nv), nv - t < fuel → WW w k 2 [(0, .ref (wa w 1)), (1, .ref (wa w 26)), (2, .int (iZ ((p : Nat) : Int))), (3, .int (iZ ((t : Nat) : Int)))] [] (ups M 26 (wkA (M 2) (M 4) (M 5) (M 6) (M 7) (M 8) (M 26) p t)) := by
    intro fuel
    induction fuel with
    | zero => intro t ht hf_2; exact absurd hf_2 (Nat.not_lt_zero _)
    | succ fuel ih_2 =>
      intro t ht hf_2
      have har2 : ∀ q : Nat, R32 (wkA (M 2) (M 4) (M 5) (M 6) (M 7) (M 8) (M 26) p t q) := wkA_R hed har t
      have hc : ∀ v : Nat, R32 (comeZ (M 2) (M 4) (M 8) (wkA (M 2) (M 4) (M 5) (M 6) (M 7) (M 8) (M 26) p t) v p) := fun v => comeZ_R hed har2
      have hlf1 := hlf t
      have hrt1 := hrt t
      have hac1 := hac t
      refine ww_iload_n C dX4_workPoint_2 3 rfl ?_
      refine ww_aload_n C dX4_workPoint_3 0 rfl ?_
      refine gt_X4_22 C dX4_workPoint_4 ?_
      refine ww_top (b := ((nv : Nat) : Int)) (hnv) ?_
      refine ww_icmp_ge C 77 dX4_workPoint_7 (by decide) (by omega) (by omega) (fun c_7 => ?_) (fun c_7 => ?_)
      · exact RT _ _ _ dX4_workPoint_77 (by rw [show t = nv by omega])
      · refine ww_aload_n C dX4_workPoint_10 0 rfl ?_
        refine ww_aload_n C dX4_workPoint_11 1 rfl ?_
        refine ww_iload_n C dX4_workPoint_12 3 rfl ?_
        refine ww_iload_n C dX4_workPoint_13 2 rfl ?_
        refine ww_callV C (As := [.ref (wa w 26), .int (iZ ((t : Nat) : Int)), .int (iZ ((p : Nat) : Int))]) 1 (by decide) (ct_X4_comes_26 w (ups M 26 (wkA (M 2) (M 4) (M 5) (M 6) (M 7) (M 8) (M 26) p t)) t p (show t < 4 from by omega) (show p < 512 from by omega) (show SzOk ((M 2)) from hs) (show StOk ((M 4)) from hst)) mf_X4_comes ml_X4_67 rfl rfl (by decide) rfl rfl (Nat.le_of_ble_eq_true rfl) dX4_workPoint_14 (fun z_14 M_14 hp_14 => ?_)
        rw [hp_14.1, hp_14.2]
        refine ww_top (b := comeZ ((M 2)) ((M 4)) ((M 8)) ((wkA (M 2) (M 4) (M 5) (M 6) (M 7) (M 8) (M 26) p t)) t p) rfl ?_
        refine ww_istore C dX4_workPoint_17 (lv' := [(4, .int (iZ (comeZ ((M 2)) ((M 4)) ((M 8)) ((wkA (M 2) (M 4) (M 5) (M 6) (M 7) (M 8) (M 26) p t)) t p))), (0, .ref (wa w 1)), (1, .ref (wa w 26)), (2, .int (iZ ((p : Nat) : Int))), (3, .int (iZ ((t : Nat) : Int)))]) (by rw [hkL]; decide) rfl ?_
        refine ww_aload_n C dX4_workPoint_19 1 rfl ?_
        refine ww_aload_n C dX4_workPoint_20 2 rfl ?_
        refine ww_aload_n C dX4_workPoint_21 1 rfl ?_
        refine gt_X4_31 C dX4_workPoint_22 ?_
        refine ww_iload_n C dX4_workPoint_25 4 rfl ?_
        refine al_6 C t (z := (((M 6 t).toNat : Nat) : Int)) rfl (by omega) (show M 6 t = _ from by have := hlf1 (by omega); omega) dX4_workPoint_26 ?_
        refine ww_iload_n C dX4_workPoint_27 3 rfl ?_
        refine ww_callV C (As := [.ref (wa w 26), .int (iZ (((M 6 t).toNat : Nat) : Int)), .int (iZ ((p : Nat) : Int))]) 1 (by decide) (ct_X4_comes_26 w (ups M 26 (wkA (M 2) (M 4) (M 5) (M 6) (M 7) (M 8) (M 26) p t)) ((M 6 t).toNat) p (show ((M 6 t).toNat) < 4 from by have := hlf1 (by omega); omega) (show p < 512 from by omega) (show SzOk ((M 2)) from hs) (show StOk ((M 4)) from hst)) mf_X4_comes ml_X4_67 rfl rfl (by decide) rfl rfl (Nat.le_of_ble_eq_true rfl) dX4_workPoint_28 (fun z_28 M_28 hp_28 => ?_)
        rw [hp_28.1, hp_28.2]
        refine ww_top (b := comeZ ((M 2)) ((M 4)) ((M 8)) ((wkA (M 2) (M 4) (M 5) (M 6) (M 7) (M 8) (M 26) p t)) ((M 6 t).toNat) p) rfl ?_
        refine ww_istore C dX4_workPoint_31 (lv' := [(5, .int (iZ (comeZ ((M 2)) ((M 4)) ((M 8)) ((wkA (M 2) (M 4) (M 5) (M 6) (M 7) (M 8) (M 26) p t)) ((M 6 t).toNat) p))), (4, .int (iZ (comeZ ((M 2)) ((M 4)) ((M 8)) ((wkA (M 2) (M 4) (M 5) (M 6) (M 7) (M 8) (M 26) p t)) t p))), (0, .ref (wa w 1)), (1, .ref (wa w 26)), (2, .int (iZ ((p : Nat) : Int))), (3, .int (iZ ((t : Nat) : Int)))]) (by rw [hkL]; decide) rfl ?_
        refine ww_aload_n C dX4_workPoint_33 2 rfl ?_
        refine ww_aload_n C dX4_workPoint_34 3 rfl ?_
        refine ww_aload_n C dX4_workPoint_35 2 rfl ?_
        refine gt_X4_34 C dX4_workPoint_36 ?_
        refine ww_iload_n C dX4_workPoint_39 5 rfl ?_
        refine al_7 C t (z := (((M 7 t).toNat : Nat) : Int)) rfl (by omega) (show M 7 t = _ from by have := hrt1 (by omega); omega) dX4_workPoint_40 ?_
        refine ww_iload_n C dX4_workPoint_41 4 rfl ?_
        refine ww_callV C (As := [.ref (wa w 26), .int (iZ (((M 7 t).toNat : Nat) : Int)), .int (iZ ((p : Nat) : Int))]) 1 (by decide) (ct_X4_comes_26 w (ups M 26 (wkA (M 2) (M 4) (M 5) (M 6) (M 7) (M 8) (M 26) p t)) ((M 7 t).toNat) p (show ((M 7 t).toNat) < 4 from by have := hrt1 (by omega); omega) (show p < 512 from by omega) (show SzOk ((M 2)) from hs) (show StOk ((M 4)) from hst)) mf_X4_comes ml_X4_67 rfl rfl (by decide) rfl rfl (Nat.le_of_ble_eq_true rfl) dX4_workPoint_42 (fun z_42 M_42 hp_42 => ?_)
        rw [hp_42.1, hp_42.2]
        refine ww_top (b := comeZ ((M 2)) ((M 4)) ((M 8)) ((wkA (M 2) (M 4) (M 5) (M 6) (M 7) (M 8) (M 26) p t)) ((M 7 t).toNat) p) rfl ?_
        refine ww_istore C dX4_workPoint_45 (lv' := [(6, .int (iZ (comeZ ((M 2)) ((M 4)) ((M 8)) ((wkA (M 2) (M 4) (M 5) (M 6) (M 7) (M 8) (M 26) p t)) ((M 7 t).toNat) p))), (5, .int (iZ (comeZ ((M 2)) ((M 4)) ((M 8)) ((wkA (M 2) (M 4) (M 5) (M 6) (M 7) (M 8) (M 26) p t)) ((M 6 t).toNat) p))), (4, .int (iZ (comeZ ((M 2)) ((M 4)) ((M 8)) ((wkA (M 2) (M 4) (M 5) (M 6) (M 7) (M 8) (M 26) p t)) t p))), (0, .ref (wa w 1)), (1, .ref (wa w 26)), (2, .int (iZ ((p : Nat) : Int))), (3, .int (iZ ((t : Nat) : Int)))]) (by rw [hkL]; decide) rfl ?_
        refine ww_aload_n C dX4_workPoint_47 4 rfl ?_
        refine ww_iload_n C dX4_workPoint_48 6 rfl ?_
        refine ww_sipush C dX4_workPoint_49 (by decide) ?_
        refine ww_imul C dX4_workPoint_52 ?_
        refine ww_iload_n C dX4_workPoint_53 5 rfl ?_
        refine ww_iadd C dX4_workPoint_54 ?_
        refine ww_aload_n C dX4_workPoint_55 3 rfl ?_
        refine gt_X4_28 C dX4_workPoint_56 ?_
        refine ww_iload_n C dX4_workPoint_59 6 rfl ?_
        refine al_5 C t (z := M 5 t) rfl (by omega) rfl dX4_workPoint_60 ?_
        refine ww_iload C dX4_workPoint_61 2 rfl ?_
        refine ww_iload C dX4_workPoint_63 1 rfl ?_
        refine ww_iload C dX4_workPoint_65 0 rfl ?_
        refine ww_callS C (As := [.int (iZ (M 5 t)), .int (iZ (comeZ ((M 2)) ((M 4)) ((M 8)) ((wkA (M 2) (M 4) (M 5) (M 6) (M 7) (M 8) (M 26) p t)) t p)), .int (iZ (comeZ ((M 2)) ((M 4)) ((M 8)) ((wkA (M 2) (M 4) (M 5) (M 6) (M 7) (M 8) (M 26) p t)) ((M 6 t).toNat) p)), .int (iZ (comeZ ((M 2)) ((M 4)) ((M 8)) ((wkA (M 2) (M 4) (M 5) (M 6) (M 7) (M 8) (M 26) p t)) ((M 7 t).toNat) p))]) (ct_X4_made w (ups M 26 (wkA (M 2) (M 4) (M 5) (M 6) (M 7) (M 8) (M 26) p t)) (M 5 t) (comeZ ((M 2)) ((M 4)) ((M 8)) ((wkA (M 2) (M 4) (M 5) (M 6) (M 7) (M 8) (M 26) p t)) t p) (comeZ ((M 2)) ((M 4)) ((M 8)) ((wkA (M 2) (M 4) (M 5) (M 6) (M 7) (M 8) (M 26) p t)) ((M 6 t).toNat) p) (comeZ ((M 2)) ((M 4)) ((M 8)) ((wkA (M 2) (M 4) (M 5) (M 6) (M 7) (M 8) (M 26) p t)) ((M 7 t).toNat) p) (show 0 ≤ (M 5 t) ∧ (M 5 t) ≤ 7 from hac1 (by omega)) (show R32 (comeZ ((M 2)) ((M 4)) ((M 8)) ((wkA (M 2) (M 4) (M 5) (M 6) (M 7) (M 8) (M 26) p t)) t p) from hc _) (show R32 (comeZ ((M 2)) ((M 4)) ((M 8)) ((wkA (M 2) (M 4) (M 5) (M 6) (M 7) (M 8) (M 26) p t)) ((M 6 t).toNat) p) from hc _) (show R32 (comeZ ((M 2)) ((M 4)) ((M 8)) ((wkA (M 2) (M 4) (M 5) (M 6) (M 7) (M 8) (M 26) p t)) ((M 7 t).toNat) p) from hc _)) mf_X4_made ml_X4_71 (by decide) rfl rfl (Nat.le_of_ble_eq_true rfl) dX4_workPoint_67 (fun z_67 M_67 hp_67 => ?_)
        rw [hp_67.1, hp_67.2]
        refine ww_top (b := madeZ (M 5 t) (comeZ ((M 2)) ((M 4)) ((M 8)) ((wkA (M 2) (M 4) (M 5) (M 6) (M 7) (M 8) (M 26) p t)) t p) (comeZ ((M 2)) ((M 4)) ((M 8)) ((wkA (M 2) (M 4) (M 5) (M 6) (M 7) (M 8) (M 26) p t)) ((M 6 t).toNat) p) (comeZ ((M 2)) ((M 4)) ((M 8)) ((wkA (M 2) (M 4) (M 5) (M 6) (M 7) (M 8) (M 26) p t)) ((M 7 t).toNat) p)) rfl ?_
        refine as_26 C (512 * t + p) (by omega) (by omega) dX4_workPoint_70 ?_
        refine ww_mem (M1 := ups M 26 (wkA (M 2) (M 4) (M 5) (M 6) (M 7) (M 8) (M 26) p (t + 1))) (by rw [ups_ups]; rfl) ?_
        refine ww_iinc2 C dX4_workPoint_71 6 rfl (b := ((t + 1 : Nat) : Int)) (by omega) (lv' := [(3, .int (iZ ((t + 1 : Nat) : Int))), (6, .int (iZ (comeZ ((M 2)) ((M 4)) ((M 8)) ((wkA (M 2) (M 4) (M 5) (M 6) (M 7) (M 8) (M 26) p t)) ((M 7 t).toNat) p))), (5, .int (iZ (comeZ ((M 2)) ((M 4)) ((M 8)) ((wkA (M 2) (M 4) (M 5) (M 6) (M 7) (M 8) (M 26) p t)) ((M 6 t).toNat) p))), (4, .int (iZ (comeZ ((M 2)) ((M 4)) ((M 8)) ((wkA (M 2) (M 4) (M 5) (M 6) (M 7) (M 8) (M 26) p t)) t p))), (0, .ref (wa w 1)), (1, .ref (wa w 26)), (2, .int (iZ ((p : Nat) : Int)))]) (by rw [hkL]; decide) rfl ?_
        refine ww_goto C 2 dX4_workPoint_74 (by decide) ?_
        refine ww_sub [4, 5, 6, 0] rfl ?_
        exact ih_2 (t + 1) (by omega) (by omega)
  refine ww_sub [1, 2, 3, 0] rfl ?_
  refine ww_mem (M1 := ups M 26 (wkA (M 2) (M 4) (M 5) (M 6) (M 7) (M 8) (M 26) p 0)) ((ups_id (M := M)).symm) ?_
  exact L_2 _ 0 (by omega) (Nat.lt_succ_self _)
