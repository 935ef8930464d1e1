set_option maxRecDepth 100000 in
set_option maxHeartbeats 4000000 in
theorem ct_X5_laid (w : WLD) (M : Mem) (nv np : Nat) (x : Int) (hI : CInv M nv np) (hx : R32 x) : CtI w yX5_laid cX5_laid 2 (some .int) rm_X5_laid [.ref (wa w 0), .int (iZ x)] M (fun z M1 => lddR (M 11) (M 2) (M 10 1) x z ∧ setS M M1 nv np) := by
  refine CtI.of (by decide) (Nat.le_of_ble_eq_true rfl) rfl rfl ?_
  intro k hkL C RT
  show WW w k 0 [(0, .ref (wa w 0)), (1, .int (iZ x))] [] M
  refine ww_aload_n C dX5_laid_0 0 rfl ?_
  refine ww_callVV C (As := []) 0 (by decide) (ct_X5_settle w M nv np (hI)) mf_X5_settle ml_X5_114 rfl rfl (by decide) rfl rfl (Nat.le_of_ble_eq_true rfl) dX5_laid_1 (fun M_1 hp_1 => ?_)
  obtain ⟨hse_1, hk_1⟩ := hp_1
  have hI_1 := hse_1.1
  have hfr_1 := fr_rows hse_1
  obtain ⟨hs_1, hnv_1, hn4_1, hnp_1, hcd_1, hst_1, hac_1, hlf_1, hrt_1, hed_1, har9_1, hvk_1, hVk_1, hld_1, hnu_1, hf_1, h11_1, h21_1, h23_1, hkn_1, hpl_1, hl0_1, hb0_1, hb5_1, hth_1, hrn_1, har26_1, hb25_1⟩ := id hI_1
  have hpl_1 := hpl_1 hk_1
  have hpR_1 := pl_R hnu_1 hs_1 hf_1.1 hf_1.2 hpl_1
  have hq_1 := hpl_1
  rw [hfr_1.1, hfr_1.2.2.1, hfr_1.2.2.2] at hq_1
  have hnp9 := np_eq hs_1 hcd_1
  rw [hfr_1.1] at hnp9
  have hn5 : np ≤ 512 := hcd_1.2.2.2.2
  refine ww_iload_n C dX5_laid_4 1 rfl ?_
  rcases Classical.em (0 ≤ x ∧ x ≤ 3) with ht_5 | ht_5
  · rcases (show x = 0 ∨ x = 1 ∨ x = 2 ∨ x = 3 by omega) with ht_5 | ht_5 | ht_5 | ht_5
    · refine ww_tabIn C 36 0 dX5_laid_5 ht_5 (by decide) (by decide) rfl (by decide) ?_
      refine ww_aload_n C dX5_laid_36 0 rfl ?_
      refine gt_X5_26 C dX5_laid_37 ?_
      refine gt_X5_117 C dX5_laid_40 ?_
      exact RT _ _ _ _ dX5_laid_43 (⟨Or.inl ⟨ht_5, hq_1.2.2.1⟩, hse_1⟩)
    · refine ww_tabIn C 44 1 dX5_laid_5 ht_5 (by decide) (by decide) rfl (by decide) ?_
      refine ww_aload_n C dX5_laid_44 0 rfl ?_
      refine gt_X5_26 C dX5_laid_45 ?_
      refine gt_X5_120 C dX5_laid_48 ?_
      exact RT _ _ _ _ dX5_laid_51 (⟨Or.inr (Or.inl ⟨ht_5, hq_1.2.2.2.1⟩), hse_1⟩)
    · refine ww_tabIn C 52 2 dX5_laid_5 ht_5 (by decide) (by decide) rfl (by decide) ?_
      refine ww_aload_n C dX5_laid_52 0 rfl ?_
      refine gt_X5_26 C dX5_laid_53 ?_
      refine ww_aload_n C dX5_laid_56 0 rfl ?_
      refine gt_X5_12 C dX5_laid_57 ?_
      refine ww_callV C (As := [.ref (wa w 1)]) 12 (by decide) (ct_X0_use w M_1 np (hpR_1.1) (hpR_1.2.1) (hnp_1) (hn5)) mf_X0_use ml_X5_123 rfl rfl (by decide) rfl rfl (Nat.le_of_ble_eq_true rfl) dX5_laid_60 (fun z_60 M_60 hp_60 => ?_)
      rw [hp_60.1, hp_60.2]
      exact RT _ _ _ _ dX5_laid_63 (⟨Or.inr (Or.inr (Or.inl ⟨ht_5, M_1 12 4, hq_1.2.2.1, by rw [hnp9, hq_1.2.2.2.1]⟩)), hse_1⟩)
    · refine ww_tabIn C 64 3 dX5_laid_5 ht_5 (by decide) (by decide) rfl (by decide) ?_
      refine ww_aload_n C dX5_laid_64 0 rfl ?_
      refine gt_X5_26 C dX5_laid_65 ?_
      refine ww_aload_n C dX5_laid_68 0 rfl ?_
      refine gt_X5_12 C dX5_laid_69 ?_
      refine ww_callV C (As := [.ref (wa w 1)]) 12 (by decide) (ct_X0_apart w M_1 (keyZ (M_1 11) (M_1 2) (M_1 10 1)) np (by have := hpR_1.2.2.1; omega) (hs_1) (hnp_1) (hcd_1) (hpl_1.2.1) (fun u h9 => (hpR_1.2.2.2.2 u h9).2) (hpR_1.1) (hb0_1) (hb5_1)) mf_X0_apart ml_X5_127 rfl rfl (by decide) rfl rfl (Nat.le_of_ble_eq_true rfl) dX5_laid_72 (fun z_72 M_72 hp_72 => ?_)
      exact RT _ _ _ _ dX5_laid_75 (ldd_3 hs_1 hse_1 hpl_1 ht_5 hp_72)
  · refine ww_tabOut C 76 dX5_laid_5 (by omega) (by omega) (by decide) ?_
    refine ww_iconst C dX5_laid_76 ?_
    exact RT _ _ _ _ dX5_laid_77 (⟨Or.inr (Or.inr (Or.inr (Or.inr ⟨ht_5, rfl⟩))), hse_1⟩)
set_option maxRecDepth 100000 in
set_option maxHeartbeats 4000000 in
theorem ct_X5_where (w : WLD) (M : Mem) (nv np : Nat) (i j l x : Int) (hI : CInv M nv np) (h2 : R32 i) (h3 : R32 j) (h4 : R32 l) (hx : R32 x) : CtI w yX5_where cX5_where 6 (some .int) rm_X5_where [.ref (wa w 0), .int (iZ i), .int (iZ j), .int (iZ l), .int (iZ x)] M (fun z M1 => z = wheZ (M 11) (M 2) (M 10 1) i j l x ∧ setS M M1 nv np) := by
  refine CtI.of (by decide) (Nat.le_of_ble_eq_true rfl) rfl rfl ?_
  intro k hkL C RT
  obtain ⟨hs, hnv, hn4, hnp, hcd, hst, hac, hlf, hrt, hed, har9, hvk, hVk, hld, hnu, hf, h11, h21, h23, hkn, hpl, hl0, hb0, hb5, hth, hrn, har26, hb25⟩ := id hI
  have hcb := codeZ_b (sz := M 2) (i := i) (j := j) (k := l) hs
  have hcz : (((0 ≤ i ∧ i < M 2 0) ∧ (0 ≤ j ∧ j < M 2 1) ∧ (0 ≤ l ∧ l < M 2 2)) ∧ codeZ (M 2) i j l = 64 * i + 8 * j + l) ∨ (¬ ((0 ≤ i ∧ i < M 2 0) ∧ (0 ≤ j ∧ j < M 2 1) ∧ (0 ≤ l ∧ l < M 2 2)) ∧ codeZ (M 2) i j l = -1) := by unfold codeZ; split <;> omega
  show WW w k 0 [(0, .ref (wa w 0)), (1, .int (iZ i)), (2, .int (iZ j)), (3, .int (iZ l)), (4, .int (iZ x))] [] M
  refine ww_aload_n C dX5_where_0 0 rfl ?_
  refine gt_X5_12 C dX5_where_1 ?_
  refine ww_iload_n C dX5_where_4 1 rfl ?_
  refine ww_iload_n C dX5_where_5 2 rfl ?_
  refine ww_iload_n C dX5_where_6 3 rfl ?_
  refine ww_callV C (As := [.int (iZ i), .int (iZ j), .int (iZ l)]) 1 (by decide) (ct_X4_codeOf w M i j l (by omega) (by omega) (by omega) (hs)) mf_X4_codeOf ml_X5_78 rfl rfl (by decide) rfl rfl (Nat.le_of_ble_eq_true rfl) dX5_where_7 (fun z_7 M_7 hp_7 => ?_)
  rw [hp_7.1, hp_7.2]
  refine ww_istore C dX5_where_10 (lv' := [(5, .int (iZ (codeZ ((M 2)) i j l))), (0, .ref (wa w 0)), (1, .int (iZ i)), (2, .int (iZ j)), (3, .int (iZ l)), (4, .int (iZ x))]) (by rw [hkL]; decide) rfl ?_
  refine ww_iload C dX5_where_12 0 rfl ?_
  refine ww_iconst C dX5_where_14 ?_
  refine ww_icmp_ne C 20 dX5_where_15 (by decide) (by omega) (by omega) (fun c_15 => ?_) (fun c_15 => ?_)
  · have hpt : (0 ≤ i ∧ i < M 2 0) ∧ (0 ≤ j ∧ j < M 2 1) ∧ (0 ≤ l ∧ l < M 2 2) := by omega
    have hpp := pt_isP hs hpt
    have hp5 := isP_lt hs hpp
    refine ww_aload_n C dX5_where_20 1 rfl ?_
    refine ww_callVV C (As := []) 0 (by decide) (ct_X5_settle w M nv np (hI)) mf_X5_settle ml_X5_114 rfl rfl (by decide) rfl rfl (Nat.le_of_ble_eq_true rfl) dX5_where_21 (fun M_21 hp_21 => ?_)
    obtain ⟨hse_21, hk_21⟩ := hp_21
    have hI_21 := hse_21.1
    have hfr_21 := fr_rows hse_21
    obtain ⟨hs_21, hnv_21, hn4_21, hnp_21, hcd_21, hst_21, hac_21, hlf_21, hrt_21, hed_21, har9_21, hvk_21, hVk_21, hld_21, hnu_21, hf_21, h11_21, h21_21, h23_21, hkn_21, hpl_21, hl0_21, hb0_21, hb5_21, hth_21, hrn_21, har26_21, hb25_21⟩ := id hI_21
    have hpl_21 := hpl_21 hk_21
    have hpR_21 := pl_R hnu_21 hs_21 hf_21.1 hf_21.2 hpl_21
    rw [hfr_21.1, hfr_21.2.2.1, hfr_21.2.2.2] at hpl_21
    have hlay := hpl_21.1 _ hpp
    refine ww_iload C dX5_where_24 5 rfl ?_
    rcases Classical.em (0 ≤ x ∧ x ≤ 2) with ht_26 | ht_26
    · rcases (show x = 0 ∨ x = 1 ∨ x = 2 by omega) with ht_26 | ht_26 | ht_26
      · refine ww_tabIn C 52 0 dX5_where_26 ht_26 (by decide) (by decide) rfl (by decide) ?_
        refine ww_aload_n C dX5_where_52 1 rfl ?_
        refine gt_X5_26 C dX5_where_53 ?_
        refine gt_X5_130 C dX5_where_56 ?_
        refine ww_iload C dX5_where_59 0 rfl ?_
        refine ww_top (b := (((64 * i + 8 * j + l).toNat : Nat) : Int)) (by omega) ?_
        refine al_13 C ((64 * i + 8 * j + l).toNat) (z := M_21 13 ((64 * i + 8 * j + l).toNat)) rfl (by omega) rfl dX5_where_61 ?_
        exact RT _ _ _ _ dX5_where_62 (⟨by rw [hlay.1]; unfold wheZ; rw [if_pos hpt, if_pos ht_26], hse_21⟩)
      · refine ww_tabIn C 63 1 dX5_where_26 ht_26 (by decide) (by decide) rfl (by decide) ?_
        refine ww_aload_n C dX5_where_63 1 rfl ?_
        refine gt_X5_26 C dX5_where_64 ?_
        refine gt_X5_134 C dX5_where_67 ?_
        refine ww_iload C dX5_where_70 0 rfl ?_
        refine ww_top (b := (((64 * i + 8 * j + l).toNat : Nat) : Int)) (by omega) ?_
        refine al_14 C ((64 * i + 8 * j + l).toNat) (z := M_21 14 ((64 * i + 8 * j + l).toNat)) rfl (by omega) rfl dX5_where_72 ?_
        exact RT _ _ _ _ dX5_where_73 (⟨by rw [hlay.2.1]; unfold wheZ; rw [if_pos hpt, if_neg (by omega), if_pos ht_26], hse_21⟩)
      · refine ww_tabIn C 74 2 dX5_where_26 ht_26 (by decide) (by decide) rfl (by decide) ?_
        refine ww_aload_n C dX5_where_74 1 rfl ?_
        refine gt_X5_26 C dX5_where_75 ?_
        refine gt_X5_137 C dX5_where_78 ?_
        refine ww_iload C dX5_where_81 0 rfl ?_
        refine ww_top (b := (((64 * i + 8 * j + l).toNat : Nat) : Int)) (by omega) ?_
        refine al_15 C ((64 * i + 8 * j + l).toNat) (z := M_21 15 ((64 * i + 8 * j + l).toNat)) rfl (by omega) rfl dX5_where_83 ?_
        exact RT _ _ _ _ dX5_where_84 (⟨by rw [hlay.2.2]; unfold wheZ; rw [if_pos hpt, if_neg (by omega), if_neg (by omega), if_pos ht_26], hse_21⟩)
    · refine ww_tabOut C 85 dX5_where_26 (by omega) (by omega) (by decide) ?_
      refine ww_iconst C dX5_where_85 ?_
      exact RT _ _ _ _ dX5_where_86 (⟨by unfold wheZ; rw [if_pos hpt, if_neg (by omega), if_neg (by omega), if_neg (by omega)], hse_21⟩)
  · refine ww_iconst C dX5_where_18 ?_
    exact RT _ _ _ _ dX5_where_19 (⟨by unfold wheZ; rw [if_neg (by omega)], setS_rf hI⟩)
set_option maxRecDepth 100000 in
set_option maxHeartbeats 4000000 in
theorem ct_X5_needs (w : WLD) (M : Mem) (nv np : Nat) (v x : Int) (hI : CInv M nv np) (h1 : R32 v) (hx : R32 x) : CtI w yX5_needs cX5_needs 3 (some .int) rm_X5_needs [.ref (wa w 0), .int (iZ v), .int (iZ x)] M (fun z M1 => z = nedZ (M 11) (M 2) (M 4) (M 1 3) v x ∧ M1 = M) := by
  refine CtI.of (by decide) (Nat.le_of_ble_eq_true rfl) rfl rfl ?_
  intro k hkL C RT
  obtain ⟨hs, hnv, hn4, hnp, hcd, hst, hac, hlf, hrt, hed, har9, hvk, hVk, hld, hnu, hf, h11, h21, h23, hkn, hpl, hl0, hb0, hb5, hth, hrn, har26, hb25⟩ := id hI
  show WW w k 0 [(0, .ref (wa w 0)), (1, .int (iZ v)), (2, .int (iZ x))] [] M
  refine ww_aload_n C dX5_needs_0 0 rfl ?_
  refine gt_X5_12 C dX5_needs_1 ?_
  refine ww_iload_n C dX5_needs_4 1 rfl ?_
  refine ww_callV C (As := [.int (iZ v)]) 1 (by decide) (ct_X4_has w M v (by omega) (by omega)) mf_X4_has ml_X5_71 rfl rfl (by decide) rfl rfl (Nat.le_of_ble_eq_true rfl) dX5_needs_5 (fun z_5 M_5 hp_5 => ?_)
  rw [hp_5.1, hp_5.2]
  refine ww_ifb_ne C 15 dX5_needs_8 (by decide) (fun c_8 => ?_) (fun c_8 => ?_)
  · refine ww_iload_n C dX5_needs_15 2 rfl ?_
    rcases Classical.em (0 ≤ x ∧ x ≤ 2) with ht_16 | ht_16
    · rcases (show x = 0 ∨ x = 1 ∨ x = 2 by omega) with ht_16 | ht_16 | ht_16
      · refine ww_tabIn C 44 0 dX5_needs_16 ht_16 (by decide) (by decide) rfl (by decide) ?_
        refine ww_aload_n C dX5_needs_44 0 rfl ?_
        refine gt_X5_19 C dX5_needs_45 ?_
        refine ww_aload_n C dX5_needs_48 0 rfl ?_
        refine gt_X5_12 C dX5_needs_49 ?_
        refine ww_iload_n C dX5_needs_52 1 rfl ?_
        refine ww_top (b := ((v.toNat : Nat) : Int)) (by omega) ?_
        refine ww_callV C (As := [.ref (wa w 1), .int (iZ ((v.toNat : Nat) : Int))]) 10 (pl_lt (Or.inl rfl)) (ct_X1_delay w M 10 v.toNat (Or.inl rfl) (by omega)) mf_X1_delay ml_X5_140 (pl_cell (Or.inl rfl) _) rfl (by decide) rfl rfl (Nat.le_of_ble_eq_true rfl) dX5_needs_53 (fun z_53 M_53 hp_53 => ?_)
        rw [hp_53.1, hp_53.2]
        exact RT _ _ _ _ dX5_needs_56 (⟨by unfold nedZ; split <;> (try split) <;> (try split) <;> (try split) <;> (try split) <;> first | rfl | omega | contradiction, rfl⟩)
      · refine ww_tabIn C 57 1 dX5_needs_16 ht_16 (by decide) (by decide) rfl (by decide) ?_
        refine ww_aload_n C dX5_needs_57 0 rfl ?_
        refine gt_X5_19 C dX5_needs_58 ?_
        refine ww_aload_n C dX5_needs_61 0 rfl ?_
        refine gt_X5_12 C dX5_needs_62 ?_
        refine ww_iload_n C dX5_needs_65 1 rfl ?_
        refine ww_top (b := ((v.toNat : Nat) : Int)) (by omega) ?_
        refine ww_callV C (As := [.ref (wa w 1), .int (iZ ((v.toNat : Nat) : Int))]) 10 (pl_lt (Or.inl rfl)) (ct_X1_way w M 10 v.toNat (Or.inl rfl) (by omega) (hnu) (hst)) mf_X1_way ml_X5_144 (pl_cell (Or.inl rfl) _) rfl (by decide) rfl rfl (Nat.le_of_ble_eq_true rfl) dX5_needs_66 (fun z_66 M_66 hp_66 => ?_)
        rw [hp_66.1, hp_66.2]
        exact RT _ _ _ _ dX5_needs_69 (⟨by unfold nedZ; split <;> (try split) <;> (try split) <;> (try split) <;> (try split) <;> first | rfl | omega | contradiction, rfl⟩)
      · refine ww_tabIn C 70 2 dX5_needs_16 ht_16 (by decide) (by decide) rfl (by decide) ?_
        refine ww_aload_n C dX5_needs_70 0 rfl ?_
        refine gt_X5_12 C dX5_needs_71 ?_
        refine ww_iload_n C dX5_needs_74 1 rfl ?_
        refine ww_top (b := ((v.toNat : Nat) : Int)) (by omega) ?_
        refine ww_callV C (As := [.int (iZ ((v.toNat : Nat) : Int))]) 1 (by decide) (ct_X4_isNeeded w M v.toNat (by omega) (hs) (hst)) mf_X4_isNeeded ml_X5_147 rfl rfl (by decide) rfl rfl (Nat.le_of_ble_eq_true rfl) dX5_needs_75 (fun z_75 M_75 hp_75 => ?_)
        rw [hp_75.1, hp_75.2]
        refine ww_ifb_eq C 85 dX5_needs_78 (by decide) (fun c_78 => ?_) (fun c_78 => ?_)
        · refine ww_iconst C dX5_needs_85 ?_
          exact RT _ _ _ _ dX5_needs_86 (⟨by unfold nedZ; split <;> (try split) <;> (try split) <;> (try split) <;> (try split) <;> first | rfl | omega | contradiction, rfl⟩)
        · refine ww_iconst C dX5_needs_81 ?_
          refine ww_goto C 86 dX5_needs_82 (by decide) ?_
          exact RT _ _ _ _ dX5_needs_86 (⟨by unfold nedZ; split <;> (try split) <;> (try split) <;> (try split) <;> (try split) <;> first | rfl | omega | contradiction, rfl⟩)
    · refine ww_tabOut C 87 dX5_needs_16 (by omega) (by omega) (by decide) ?_
      refine ww_sipush C dX5_needs_87 (by decide) ?_
      exact RT _ _ _ _ dX5_needs_90 (⟨by unfold nedZ; split <;> (try split) <;> (try split) <;> (try split) <;> (try split) <;> first | rfl | omega | contradiction, rfl⟩)
  · refine ww_sipush C dX5_needs_11 (by decide) ?_
    exact RT _ _ _ _ dX5_needs_14 (⟨by unfold nedZ; split <;> (try split) <;> (try split) <;> (try split) <;> (try split) <;> first | rfl | omega | contradiction, rfl⟩)
set_option maxRecDepth 100000 in
set_option maxHeartbeats 4000000 in
theorem ct_X5_laying (w : WLD) (M : Mem) (q x : Int) (h1 : R32 q) (h2 : R32 x) : CtI w yX5_laying cX5_laying 3 (some .int) rm_X5_laying [.ref (wa w 0), .int (iZ q), .int (iZ x)] M (fun z M1 => z = (if (0 ≤ q ∧ q ≤ 2) ∧ (0 ≤ x ∧ x ≤ 2) then M 11 (3 * q + x).toNat else -1000) ∧ M1 = M) := by
  refine CtI.of (by decide) (Nat.le_of_ble_eq_true rfl) rfl rfl ?_
  intro k hkL C RT
  show WW w k 0 [(0, .ref (wa w 0)), (1, .int (iZ q)), (2, .int (iZ x))] [] M
  refine ww_iload_n C dX5_laying_0 1 rfl ?_
  refine ww_callS C (As := [.int (iZ q)]) (ct_X5_isIndex w M q (by omega)) mf_X5_isIndex ml_X5_87 (by decide) rfl rfl (Nat.le_of_ble_eq_true rfl) dX5_laying_1 (fun z_1 M_1 hp_1 => ?_)
  rw [hp_1.1, hp_1.2]
  refine ww_ifb_eq C 30 dX5_laying_4 (by decide) (fun c_4 => ?_) (fun c_4 => ?_)
  · refine ww_sipush C dX5_laying_30 (by decide) ?_
    exact RT _ _ _ _ dX5_laying_33 (⟨by first | exact (if_pos (by omega)).symm | exact (if_neg (by omega)).symm, rfl⟩)
  · refine ww_iload_n C dX5_laying_7 2 rfl ?_
    refine ww_callS C (As := [.int (iZ x)]) (ct_X5_isIndex w M x (by omega)) mf_X5_isIndex ml_X5_87 (by decide) rfl rfl (Nat.le_of_ble_eq_true rfl) dX5_laying_8 (fun z_8 M_8 hp_8 => ?_)
    rw [hp_8.1, hp_8.2]
    refine ww_ifb_eq C 30 dX5_laying_11 (by decide) (fun c_11 => ?_) (fun c_11 => ?_)
    · refine ww_sipush C dX5_laying_30 (by decide) ?_
      exact RT _ _ _ _ dX5_laying_33 (⟨by first | exact (if_pos (by omega)).symm | exact (if_neg (by omega)).symm, rfl⟩)
    · refine ww_aload_n C dX5_laying_14 0 rfl ?_
      refine gt_X5_19 C dX5_laying_15 ?_
      refine gt_X5_161 C (Or.inl rfl) dX5_laying_18 ?_
      refine ww_iconst C dX5_laying_21 ?_
      refine ww_iload_n C dX5_laying_22 1 rfl ?_
      refine ww_imul C dX5_laying_23 ?_
      refine ww_iload_n C dX5_laying_24 2 rfl ?_
      refine ww_iadd C dX5_laying_25 ?_
      refine al_11 C ((3 * q + x).toNat) (z := M 11 ((3 * q + x).toNat)) (by omega) (by omega) rfl dX5_laying_26 ?_
      refine ww_goto C 33 dX5_laying_27 (by decide) ?_
      exact RT _ _ _ _ dX5_laying_33 (⟨by first | exact (if_pos (by omega)).symm | exact (if_neg (by omega)).symm, rfl⟩)
set_option maxRecDepth 100000 in
set_option maxHeartbeats 4000000 in
theorem ct_X5_run (w : WLD) (M : Mem) (nv np : Nat) (hI : CInv M nv np) : CtI w yX5_run cX5_run 1 (some .int) rm_X5_run [.ref (wa w 0)] M (fun z M1 => (rigP (M 11) (M 2) (M 4) nv ∧ z = M 2 0 * M 2 1 * M 2 2 ∧ ∃ bt : Nat, beaR (M 2) (beatZ (M 11) (M 2) (M 10 1)) 512 (bt : Int) ∧ M1 26 = outB (M 2) (M 4) (M 5) (M 6) (M 7) (M 8) (beatZ (M 11) (M 2) (M 10 1)) nv (M 26) bt ∧ runS M M1 nv np) ∨ (¬ rigP (M 11) (M 2) (M 4) nv ∧ z = -1 ∧ setS M M1 nv np)) := by
  refine CtI.of (by decide) (Nat.le_of_ble_eq_true rfl) rfl rfl ?_
  intro k hkL C RT
  show WW w k 0 [(0, .ref (wa w 0))] [] M
  refine ww_aload_n C dX5_run_0 0 rfl ?_
  refine ww_callV C (As := []) 0 (by decide) (ct_X5_reason w M nv np (hI)) mf_X5_reason ml_X5_103 rfl rfl (by decide) rfl rfl (Nat.le_of_ble_eq_true rfl) dX5_run_1 (fun z_1 M_1 hp_1 => ?_)
  obtain ⟨hre_1, hse_1⟩ := hp_1
  have hb1 := reaR_b hre_1
  refine ww_if_eq C 9 dX5_run_4 (by decide) (by omega) (fun c_4 => ?_) (fun c_4 => ?_)
  · have hk_1 := rea_k hre_1 c_4
    have hri := rea_rig (inv_met hse_1) hre_1 c_4
    have hI_1 := hse_1.1
    have hfr_1 := fr_rows hse_1
    obtain ⟨hs_1, hnv_1, hn4_1, hnp_1, hcd_1, hst_1, hac_1, hlf_1, hrt_1, hed_1, har9_1, hvk_1, hVk_1, hld_1, hnu_1, hf_1, h11_1, h21_1, h23_1, hkn_1, hpl_1, hl0_1, hb0_1, hb5_1, hth_1, hrn_1, har26_1, hb25_1⟩ := id hI_1
    have hpl_1 := hpl_1 hk_1
    have hpR_1 := pl_R hnu_1 hs_1 hf_1.1 hf_1.2 hpl_1
    have hbt9 : M_1 12 4 = (((M_1 12 4).toNat : Nat) : Int) := by have := hpR_1.1; omega
    refine ww_aload_n C dX5_run_9 0 rfl ?_
    refine gt_X5_40 C dX5_run_10 ?_
    refine ww_aload_n C dX5_run_13 0 rfl ?_
    refine gt_X5_12 C dX5_run_14 ?_
    refine ww_aload_n C dX5_run_17 0 rfl ?_
    refine gt_X5_26 C dX5_run_18 ?_
    refine ww_callV C (As := [.ref (wa w 1), .ref (wa w 12)]) 25 (by decide) (ct_X2_work w M_1 (beatZ (M_1 11) (M_1 2) (M_1 10 1)) nv np ((M_1 12 4).toNat) (hnv_1) (hn4_1) (hs_1) (hst_1) (hac_1) (hlf_1) (hrt_1) (hed_1) (hnp_1) (hcd_1) (hbt9) (by have := hpR_1.1; omega) (fun p h9 => by have e9 := hpR_1.2.2.2.2 p h9; exact ⟨e9.1, by rw [← e9.1]; exact e9.2.1, by rw [← e9.1, ← hbt9]; exact e9.2.2⟩) (fun v p h8 h9 => right_nx hnu_1 hs_1 hst_1 hf_1.1 hf_1.2 (by rw [hfr_1.1, hfr_1.2.1, hfr_1.2.2.1]; exact hri.1) hn4_1 h8 h9) (har26_1)) mf_X2_work ml_X5_164 rfl rfl (by decide) rfl rfl (Nat.le_of_ble_eq_true rfl) dX5_run_21 (fun z_21 M_21 hp_21 => ?_)
    exact RT _ _ _ _ dX5_run_24 (run_end hse_1 hri hk_1 hbt9 hp_21)
  · refine ww_iconst C dX5_run_7 ?_
    exact RT _ _ _ _ dX5_run_8 (Or.inr ⟨rea_nrig (inv_met hse_1) hre_1 c_4, rfl, hse_1⟩)
set_option maxRecDepth 100000 in
set_option maxHeartbeats 4000000 in
theorem ct_X5_worked (w : WLD) (M : Mem) (nv np : Nat) (b c d : Int) (hI : CInv M nv np) (h1 : R32 b) (h2 : R32 c) (h3 : R32 d) : CtI w yX5_worked cX5_worked 4 (some .int) rm_X5_worked [.ref (wa w 0), .int (iZ b), .int (iZ c), .int (iZ d)] M (fun z M1 => ((M 25 0 = 0 ∧ z = -1) ∨ (M 25 0 = 1 ∧ isFst (fun p => isP (M 2) p ∧ beatZ (M 11) (M 2) (M 10 1) p = b ∧ cellZ (M 11) (M 2) (M 10 1) p = c ∧ atZ (M 11) (M 2) 2 p = d) 512 z)) ∧ M1 = M) := by
  refine CtI.of (by decide) (Nat.le_of_ble_eq_true rfl) rfl rfl ?_
  intro k hkL C RT
  obtain ⟨hs, hnv, hn4, hnp, hcd, hst, hac, hlf, hrt, hed, har9, hvk, hVk, hld, hnu, hf, h11, h21, h23, hkn, hpl, hl0, hb0, hb5, hth, hrn, har26, hb25⟩ := id hI
  show WW w k 0 [(0, .ref (wa w 0)), (1, .int (iZ b)), (2, .int (iZ c)), (3, .int (iZ d))] [] M
  refine ww_aload_n C dX5_worked_0 0 rfl ?_
  refine gt_X5_40 C dX5_worked_1 ?_
  refine ww_iload_n C dX5_worked_4 1 rfl ?_
  refine ww_callV C (As := [.int (iZ b)]) 25 (by decide) (ct_X2_hasBeat w M b (h1) (hth) (by omega)) mf_X2_hasBeat ml_X5_168 rfl rfl (by decide) rfl rfl (Nat.le_of_ble_eq_true rfl) dX5_worked_5 (fun z_5 M_5 hp_5 => ?_)
  rw [hp_5.1, hp_5.2]
  refine ww_ifb_eq C 28 dX5_worked_8 (by decide) (fun c_8 => ?_) (fun c_8 => ?_)
  · refine ww_iconst C dX5_worked_28 ?_
    exact RT _ _ _ _ dX5_worked_29 (by first | exact wkd_t hs hI c_8 hpp hf_22 | exact wkd_f hs hI c_8)
  · have hkk := (hrn c_8.1).1
    obtain ⟨bt, hr1, hr2, hr3, hr4⟩ := (hrn c_8.1).2
    have hpp := hpl hkk
    have hpR := pl_R hnu hs hf.1 hf.2 hpp
    refine ww_aload_n C dX5_worked_11 0 rfl ?_
    refine gt_X5_40 C dX5_worked_12 ?_
    refine ww_aload_n C dX5_worked_15 0 rfl ?_
    refine gt_X5_26 C dX5_worked_16 ?_
    refine ww_iload_n C dX5_worked_19 1 rfl ?_
    refine ww_top (b := ((b.toNat : Nat) : Int)) (by omega) ?_
    refine ww_iload_n C dX5_worked_20 2 rfl ?_
    refine ww_iload_n C dX5_worked_21 3 rfl ?_
    refine ww_callV C (As := [.ref (wa w 12), .int (iZ ((b.toNat : Nat) : Int)), .int (iZ c), .int (iZ d)]) 25 (by decide) (ct_X2_pointAt w M (beatZ (M 11) (M 2) (M 10 1)) bt b.toNat c d (hs) (by omega) (by have := hpR.1; omega) (hr3) (h2) (h3) (fun p h9 => by have e9 := hpp.1 p h9; have e8 := cellZ_b hnu hs hf.1 h9; have e7 := atZ_b (h := 2) hnu hs (by omega) h9; rw [e9.2.1, e9.2.2]; omega)) mf_X2_pointAt ml_X5_171 rfl rfl (by decide) rfl rfl (Nat.le_of_ble_eq_true rfl) dX5_worked_22 (fun z_22 M_22 hp_22 => ?_)
    obtain ⟨hf_22, hm_22⟩ := hp_22
    refine ww_mem (M1 := M) (hm_22) ?_
    refine ww_goto C 29 dX5_worked_25 (by decide) ?_
    exact RT _ _ _ _ dX5_worked_29 (by first | exact wkd_t hs hI c_8 hpp hf_22 | exact wkd_f hs hI c_8)
set_option maxRecDepth 100000 in
set_option maxHeartbeats 4000000 in
theorem ct_X5_held (w : WLD) (M : Mem) (nv np : Nat) (b : Int) (hI : CInv M nv np) (h1 : R32 b) : CtI w yX5_held cX5_held 2 (some .int) rm_X5_held [.ref (wa w 0), .int (iZ b)] M (fun z M1 => ((M 25 0 = 0 ∧ z = -1) ∨ (M 25 0 = 1 ∧ ∃ y : Int, beaR (M 2) (beatZ (M 11) (M 2) (M 10 1)) 512 y ∧ ((¬ (0 ≤ b ∧ b < y) ∧ z = -1) ∨ ((0 ≤ b ∧ b < y) ∧ z = hsu (M 2) (M 4) (beatZ (M 11) (M 2) (M 10 1)) b nv)))) ∧ M1 = M) := by
  refine CtI.of (by decide) (Nat.le_of_ble_eq_true rfl) rfl rfl ?_
  intro k hkL C RT
  obtain ⟨hs, hnv, hn4, hnp, hcd, hst, hac, hlf, hrt, hed, har9, hvk, hVk, hld, hnu, hf, h11, h21, h23, hkn, hpl, hl0, hb0, hb5, hth, hrn, har26, hb25⟩ := id hI
  show WW w k 0 [(0, .ref (wa w 0)), (1, .int (iZ b))] [] M
  refine ww_aload_n C dX5_held_0 0 rfl ?_
  refine gt_X5_40 C dX5_held_1 ?_
  refine ww_iload_n C dX5_held_4 1 rfl ?_
  refine ww_callV C (As := [.int (iZ b)]) 25 (by decide) (ct_X2_hasBeat w M b (h1) (hth) (by omega)) mf_X2_hasBeat ml_X5_168 rfl rfl (by decide) rfl rfl (Nat.le_of_ble_eq_true rfl) dX5_held_5 (fun z_5 M_5 hp_5 => ?_)
  rw [hp_5.1, hp_5.2]
  refine ww_ifb_eq C 23 dX5_held_8 (by decide) (fun c_8 => ?_) (fun c_8 => ?_)
  · refine ww_iconst C dX5_held_23 ?_
    exact RT _ _ _ _ dX5_held_24 (by first | exact hld_t hI c_8 | exact hld_f hI c_8)
  · refine ww_aload_n C dX5_held_11 0 rfl ?_
    refine gt_X5_40 C dX5_held_12 ?_
    refine gt_X5_175 C dX5_held_15 ?_
    refine ww_iload_n C dX5_held_18 1 rfl ?_
    refine al_27 C b.toNat (z := M 27 b.toNat) (by omega) (by omega) rfl dX5_held_19 ?_
    refine ww_goto C 24 dX5_held_20 (by decide) ?_
    exact RT _ _ _ _ dX5_held_24 (by first | exact hld_t hI c_8 | exact hld_f hI c_8)
set_option maxRecDepth 100000 in
set_option maxHeartbeats 4000000 in
theorem ct_X5_value (w : WLD) (M : Mem) (nv np : Nat) (v i j l : Int) (hI : CInv M nv np) (h1 : R32 v) (h2 : R32 i) (h3 : R32 j) (h4 : R32 l) : CtI w yX5_value cX5_value 6 (some .int) rm_X5_value [.ref (wa w 0), .int (iZ v), .int (iZ i), .int (iZ j), .int (iZ l)] M (fun z M1 => z = (if M 25 0 = 1 ∧ (0 ≤ v ∧ v < M 1 3) ∧ ((0 ≤ i ∧ i < M 2 0) ∧ (0 ≤ j ∧ j < M 2 1) ∧ (0 ≤ l ∧ l < M 2 2)) then M 26 (512 * v + (64 * i + 8 * j + l)).toNat else 0) ∧ M1 = M) := by
  refine CtI.of (by decide) (Nat.le_of_ble_eq_true rfl) rfl rfl ?_
  intro k hkL C RT
  obtain ⟨hs, hnv, hn4, hnp, hcd, hst, hac, hlf, hrt, hed, har9, hvk, hVk, hld, hnu, hf, h11, h21, h23, hkn, hpl, hl0, hb0, hb5, hth, hrn, har26, hb25⟩ := id hI
  have hcb := codeZ_b (sz := M 2) (i := i) (j := j) (k := l) hs
  have hcz : (((0 ≤ i ∧ i < M 2 0) ∧ (0 ≤ j ∧ j < M 2 1) ∧ (0 ≤ l ∧ l < M 2 2)) ∧ codeZ (M 2) i j l = 64 * i + 8 * j + l) ∨ (¬ ((0 ≤ i ∧ i < M 2 0) ∧ (0 ≤ j ∧ j < M 2 1) ∧ (0 ≤ l ∧ l < M 2 2)) ∧ codeZ (M 2) i j l = -1) := by unfold codeZ; split <;> omega
  show WW w k 0 [(0, .ref (wa w 0)), (1, .int (iZ v)), (2, .int (iZ i)), (3, .int (iZ j)), (4, .int (iZ l))] [] M
  refine ww_aload_n C dX5_value_0 0 rfl ?_
  refine gt_X5_12 C dX5_value_1 ?_
  refine ww_iload_n C dX5_value_4 2 rfl ?_
  refine ww_iload_n C dX5_value_5 3 rfl ?_
  refine ww_iload C dX5_value_6 4 rfl ?_
  refine ww_callV C (As := [.int (iZ i), .int (iZ j), .int (iZ l)]) 1 (by decide) (ct_X4_codeOf w M i j l (by omega) (by omega) (by omega) (hs)) mf_X4_codeOf ml_X5_78 rfl rfl (by decide) rfl rfl (Nat.le_of_ble_eq_true rfl) dX5_value_8 (fun z_8 M_8 hp_8 => ?_)
  rw [hp_8.1, hp_8.2]
  refine ww_istore C dX5_value_11 (lv' := [(5, .int (iZ (codeZ ((M 2)) i j l))), (0, .ref (wa w 0)), (1, .int (iZ v)), (2, .int (iZ i)), (3, .int (iZ j)), (4, .int (iZ l))]) (by rw [hkL]; decide) rfl ?_
  refine ww_aload_n C dX5_value_13 1 rfl ?_
  refine gt_X5_40 C dX5_value_14 ?_
  refine gt_X5_63 C dX5_value_17 ?_
  refine ww_if_eq C 40 dX5_value_20 (by decide) (by omega) (fun c_20 => ?_) (fun c_20 => ?_)
  · refine ww_iconst C dX5_value_40 ?_
    exact RT _ _ _ _ dX5_value_41 (⟨by first | exact (if_pos (by omega)).symm | exact (if_neg (by omega)).symm, rfl⟩)
  · refine ww_aload_n C dX5_value_23 1 rfl ?_
    refine gt_X5_12 C dX5_value_24 ?_
    refine ww_iload_n C dX5_value_27 2 rfl ?_
    refine ww_callV C (As := [.int (iZ v)]) 1 (by decide) (ct_X4_has w M v (by omega) (by omega)) mf_X4_has ml_X5_71 rfl rfl (by decide) rfl rfl (Nat.le_of_ble_eq_true rfl) dX5_value_28 (fun z_28 M_28 hp_28 => ?_)
    rw [hp_28.1, hp_28.2]
    refine ww_ifb_eq C 40 dX5_value_31 (by decide) (fun c_31 => ?_) (fun c_31 => ?_)
    · refine ww_iconst C dX5_value_40 ?_
      exact RT _ _ _ _ dX5_value_41 (⟨by first | exact (if_pos (by omega)).symm | exact (if_neg (by omega)).symm, rfl⟩)
    · refine ww_iload C dX5_value_34 0 rfl ?_
      refine ww_iconst C dX5_value_36 ?_
      refine ww_icmp_ne C 42 dX5_value_37 (by decide) (by omega) (by omega) (fun c_37 => ?_) (fun c_37 => ?_)
      · refine ww_aload_n C dX5_value_42 1 rfl ?_
        refine gt_X5_40 C dX5_value_43 ?_
        refine gt_X5_178 C dX5_value_46 ?_
        refine ww_iload_n C dX5_value_49 2 rfl ?_
        refine ww_sipush C dX5_value_50 (by decide) ?_
        refine ww_imul C dX5_value_53 ?_
        refine ww_iload C dX5_value_54 0 rfl ?_
        refine ww_iadd C dX5_value_56 ?_
        refine al_26 C ((512 * v + (64 * i + 8 * j + l)).toNat) (z := M 26 ((512 * v + (64 * i + 8 * j + l)).toNat)) (by omega) (by omega) rfl dX5_value_57 ?_
        exact RT _ _ _ _ dX5_value_58 (⟨by first | exact (if_pos (by omega)).symm | exact (if_neg (by omega)).symm, rfl⟩)
      · refine ww_iconst C dX5_value_40 ?_
        exact RT _ _ _ _ dX5_value_41 (⟨by first | exact (if_pos (by omega)).symm | exact (if_neg (by omega)).symm, rfl⟩)
set_option maxRecDepth 100000 in
set_option maxHeartbeats 4000000 in
theorem ct_X5_plain (w : WLD) (M : Mem) (nv np : Nat) (v i j l : Int) (hI : CInv M nv np) (h1 : R32 v) (h2 : R32 i) (h3 : R32 j) (h4 : R32 l) : CtI w yX5_plain cX5_plain 6 (some .int) rm_X5_plain [.ref (wa w 0), .int (iZ v), .int (iZ i), .int (iZ j), .int (iZ l)] M (fun z M1 => (((0 ≤ v ∧ v < M 1 3) ∧ ((0 ≤ i ∧ i < M 2 0) ∧ (0 ≤ j ∧ j < M 2 1) ∧ (0 ≤ l ∧ l < M 2 2))) ∧ z = plA (M 2) (M 4) (M 5) (M 6) (M 7) (M 8) nv (fun _ => 0) 512 (512 * v.toNat + (64 * i + 8 * j + l).toNat) ∧ plnS M M1 nv np) ∨ (¬ ((0 ≤ v ∧ v < M 1 3) ∧ ((0 ≤ i ∧ i < M 2 0) ∧ (0 ≤ j ∧ j < M 2 1) ∧ (0 ≤ l ∧ l < M 2 2))) ∧ z = 0 ∧ M1 = M)) := by
  refine CtI.of (by decide) (Nat.le_of_ble_eq_true rfl) rfl rfl ?_
  intro k hkL C RT
  obtain ⟨hs, hnv, hn4, hnp, hcd, hst, hac, hlf, hrt, hed, har9, hvk, hVk, hld, hnu, hf, h11, h21, h23, hkn, hpl, hl0, hb0, hb5, hth, hrn, har26, hb25⟩ := id hI
  have hcb := codeZ_b (sz := M 2) (i := i) (j := j) (k := l) hs
  have hcz : (((0 ≤ i ∧ i < M 2 0) ∧ (0 ≤ j ∧ j < M 2 1) ∧ (0 ≤ l ∧ l < M 2 2)) ∧ codeZ (M 2) i j l = 64 * i + 8 * j + l) ∨ (¬ ((0 ≤ i ∧ i < M 2 0) ∧ (0 ≤ j ∧ j < M 2 1) ∧ (0 ≤ l ∧ l < M 2 2)) ∧ codeZ (M 2) i j l = -1) := by unfold codeZ; split <;> omega
  show WW w k 0 [(0, .ref (wa w 0)), (1, .int (iZ v)), (2, .int (iZ i)), (3, .int (iZ j)), (4, .int (iZ l))] [] M
  refine ww_aload_n C dX5_plain_0 0 rfl ?_
  refine gt_X5_12 C dX5_plain_1 ?_
  refine ww_iload_n C dX5_plain_4 2 rfl ?_
  refine ww_iload_n C dX5_plain_5 3 rfl ?_
  refine ww_iload C dX5_plain_6 4 rfl ?_
  refine ww_callV C (As := [.int (iZ i), .int (iZ j), .int (iZ l)]) 1 (by decide) (ct_X4_codeOf w M i j l (by omega) (by omega) (by omega) (hs)) mf_X4_codeOf ml_X5_78 rfl rfl (by decide) rfl rfl (Nat.le_of_ble_eq_true rfl) dX5_plain_8 (fun z_8 M_8 hp_8 => ?_)
  rw [hp_8.1, hp_8.2]
  refine ww_istore C dX5_plain_11 (lv' := [(5, .int (iZ (codeZ ((M 2)) i j l))), (0, .ref (wa w 0)), (1, .int (iZ v)), (2, .int (iZ i)), (3, .int (iZ j)), (4, .int (iZ l))]) (by rw [hkL]; decide) rfl ?_
  refine ww_aload_n C dX5_plain_13 1 rfl ?_
  refine gt_X5_12 C dX5_plain_14 ?_
  refine ww_iload_n C dX5_plain_17 2 rfl ?_
  refine ww_callV C (As := [.int (iZ v)]) 1 (by decide) (ct_X4_has w M v (by omega) (by omega)) mf_X4_has ml_X5_71 rfl rfl (by decide) rfl rfl (Nat.le_of_ble_eq_true rfl) dX5_plain_18 (fun z_18 M_18 hp_18 => ?_)
  rw [hp_18.1, hp_18.2]
  refine ww_ifb_eq C 30 dX5_plain_21 (by decide) (fun c_21 => ?_) (fun c_21 => ?_)
  · refine ww_iconst C dX5_plain_30 ?_
    exact RT _ _ _ _ dX5_plain_31 (Or.inr ⟨by omega, rfl, rfl⟩)
  · refine ww_iload C dX5_plain_24 0 rfl ?_
    refine ww_iconst C dX5_plain_26 ?_
    refine ww_icmp_ne C 32 dX5_plain_27 (by decide) (by omega) (by omega) (fun c_27 => ?_) (fun c_27 => ?_)
    · refine ww_aload_n C dX5_plain_32 1 rfl ?_
      refine gt_X5_12 C dX5_plain_33 ?_
      refine ww_iload_n C dX5_plain_36 2 rfl ?_
      refine ww_top (b := ((v.toNat : Nat) : Int)) (by omega) ?_
      refine ww_iload C dX5_plain_37 0 rfl ?_
      refine ww_top (b := (((64 * i + 8 * j + l).toNat : Nat) : Int)) (by omega) ?_
      refine ww_callV C (As := [.int (iZ ((v.toNat : Nat) : Int)), .int (iZ (((64 * i + 8 * j + l).toNat : Nat) : Int))]) 1 (by decide) (ct_X4_plainValue w M nv np v.toNat ((64 * i + 8 * j + l).toNat) (by omega) (by omega) (hvk) (har9) (hnv) (hn4) (hs) (hst) (hac) (hlf) (hrt) (hed) (hnp) (hcd)) mf_X4_plainValue ml_X5_181 rfl rfl (by decide) rfl rfl (Nat.le_of_ble_eq_true rfl) dX5_plain_39 (fun z_39 M_39 hp_39 => ?_)
      exact RT _ _ _ _ dX5_plain_42 (Or.inl ⟨by omega, (inv_pln hI (by omega) (pt_isP hs (by omega)) hp_39).1, (inv_pln hI (by omega) (pt_isP hs (by omega)) hp_39).2⟩)
    · refine ww_iconst C dX5_plain_30 ?_
      exact RT _ _ _ _ dX5_plain_31 (Or.inr ⟨by omega, rfl, rfl⟩)
set_option maxRecDepth 100000 in
set_option maxHeartbeats 4000000 in
theorem ct_X5_result (w : WLD) (M : Mem) (nv np : Nat) (v n x : Int) (hI : CInv M nv np) (h1 : R32 v) (h2 : R32 n) (h3 : R32 x) : CtI w yX5_result cX5_result 5 (some .int) rm_X5_result [.ref (wa w 0), .int (iZ v), .int (iZ n), .int (iZ x)] M (fun z M1 => (((0 ≤ v ∧ v < M 1 3) ∧ (0 ≤ x ∧ x ≤ 1)) ∧ (∃ y : Int, nthR (fun u : Nat => isP (M 2) u ∧ stepZ (M 2) (M 4) v.toNat u 1 = -1) n y ∧ z = if y = -1 then -1 else if x = 0 then y else plA (M 2) (M 4) (M 5) (M 6) (M 7) (M 8) nv (fun _ => 0) 512 (512 * v.toNat + y.toNat)) ∧ plnS M M1 nv np) ∨ (¬ ((0 ≤ v ∧ v < M 1 3) ∧ (0 ≤ x ∧ x ≤ 1)) ∧ z = -1 ∧ M1 = M)) := by
  refine CtI.of (by decide) (Nat.le_of_ble_eq_true rfl) rfl rfl ?_
  intro k hkL C RT
  obtain ⟨hs, hnv, hn4, hnp, hcd, hst, hac, hlf, hrt, hed, har9, hvk, hVk, hld, hnu, hf, h11, h21, h23, hkn, hpl, hl0, hb0, hb5, hth, hrn, har26, hb25⟩ := id hI
  show WW w k 0 [(0, .ref (wa w 0)), (1, .int (iZ v)), (2, .int (iZ n)), (3, .int (iZ x))] [] M
  refine ww_aload_n C dX5_result_0 0 rfl ?_
  refine gt_X5_12 C dX5_result_1 ?_
  refine ww_iload_n C dX5_result_4 1 rfl ?_
  refine ww_callV C (As := [.int (iZ v)]) 1 (by decide) (ct_X4_has w M v (by omega) (by omega)) mf_X4_has ml_X5_71 rfl rfl (by decide) rfl rfl (Nat.le_of_ble_eq_true rfl) dX5_result_5 (fun z_5 M_5 hp_5 => ?_)
  rw [hp_5.1, hp_5.2]
  refine ww_ifb_eq C 20 dX5_result_8 (by decide) (fun c_8 => ?_) (fun c_8 => ?_)
  · refine ww_iconst C dX5_result_20 ?_
    exact RT _ _ _ _ dX5_result_21 (Or.inr ⟨by omega, rfl, rfl⟩)
  · refine ww_iload_n C dX5_result_11 3 rfl ?_
    refine ww_if_lt C 20 dX5_result_12 (by decide) (by omega) (fun c_12 => ?_) (fun c_12 => ?_)
    · refine ww_iconst C dX5_result_20 ?_
      exact RT _ _ _ _ dX5_result_21 (Or.inr ⟨by omega, rfl, rfl⟩)
    · refine ww_iload_n C dX5_result_15 3 rfl ?_
      refine ww_iconst C dX5_result_16 ?_
      refine ww_icmp_le C 22 dX5_result_17 (by decide) (by omega) (by omega) (fun c_17 => ?_) (fun c_17 => ?_)
      · refine ww_aload_n C dX5_result_22 0 rfl ?_
        refine gt_X5_12 C dX5_result_23 ?_
        refine ww_iload_n C dX5_result_26 1 rfl ?_
        refine ww_top (b := ((v.toNat : Nat) : Int)) (by omega) ?_
        refine ww_iload_n C dX5_result_27 2 rfl ?_
        refine ww_callV C (As := [.int (iZ ((v.toNat : Nat) : Int)), .int (iZ n)]) 1 (by decide) (ct_X4_resultCode w M np v.toNat n (by omega) (h2) (hs) (hst) (hnp) (hcd)) mf_X4_resultCode ml_X5_185 rfl rfl (by decide) rfl rfl (Nat.le_of_ble_eq_true rfl) dX5_result_28 (fun z_28 M_28 hp_28 => ?_)
        obtain ⟨hn_28, hm_28⟩ := hp_28
        have hnb := nth_b hn_28
        refine ww_mem (M1 := M) (hm_28) ?_
        refine ww_istore C dX5_result_31 (lv' := [(4, .int (iZ z_28)), (0, .ref (wa w 0)), (1, .int (iZ v)), (2, .int (iZ n)), (3, .int (iZ x))]) (by rw [hkL]; decide) rfl ?_
        refine ww_iload C dX5_result_33 0 rfl ?_
        refine ww_iconst C dX5_result_35 ?_
        refine ww_icmp_eq C 43 dX5_result_36 (by decide) (by omega) (by omega) (fun c_36 => ?_) (fun c_36 => ?_)
        · refine ww_iload C dX5_result_43 0 rfl ?_
          exact RT _ _ _ _ dX5_result_45 (Or.inl ⟨by omega, ⟨z_28, hn_28, by first | (rw [if_pos (by omega)]; omega) | (rw [if_neg (by omega), if_pos (by omega)])⟩, plnS_rf hI⟩)
        · refine ww_iload_n C dX5_result_39 4 rfl ?_
          refine ww_if_ne C 46 dX5_result_40 (by decide) (by omega) (fun c_40 => ?_) (fun c_40 => ?_)
          · refine ww_aload_n C dX5_result_46 1 rfl ?_
            refine gt_X5_12 C dX5_result_47 ?_
            refine ww_iload_n C dX5_result_50 2 rfl ?_
            refine ww_top (b := ((v.toNat : Nat) : Int)) (by omega) ?_
            refine ww_iload C dX5_result_51 0 rfl ?_
            refine ww_top (b := ((z_28.toNat : Nat) : Int)) (by omega) ?_
            refine ww_callV C (As := [.int (iZ ((v.toNat : Nat) : Int)), .int (iZ ((z_28.toNat : Nat) : Int))]) 1 (by decide) (ct_X4_plainValue w M nv np v.toNat z_28.toNat (by omega) (by omega) (hvk) (har9) (hnv) (hn4) (hs) (hst) (hac) (hlf) (hrt) (hed) (hnp) (hcd)) mf_X4_plainValue ml_X5_181 rfl rfl (by decide) rfl rfl (Nat.le_of_ble_eq_true rfl) dX5_result_53 (fun z_53 M_53 hp_53 => ?_)
            exact RT _ _ _ _ dX5_result_56 (Or.inl ⟨by omega, ⟨z_28, hn_28, by rw [if_neg (by omega), if_neg (by omega)]; exact (inv_pln hI (by omega) (nth_P hn_28 (by omega)).1 hp_53).1⟩, (inv_pln hI (by omega) (nth_P hn_28 (by omega)).1 hp_53).2⟩)
          · refine ww_iload C dX5_result_43 0 rfl ?_
            exact RT _ _ _ _ dX5_result_45 (Or.inl ⟨by omega, ⟨z_28, hn_28, by first | (rw [if_pos (by omega)]; omega) | (rw [if_neg (by omega), if_pos (by omega)])⟩, plnS_rf hI⟩)
      · refine ww_iconst C dX5_result_20 ?_
        exact RT _ _ _ _ dX5_result_21 (Or.inr ⟨by omega, rfl, rfl⟩)
set_option maxRecDepth 100000 in
set_option maxHeartbeats 4000000 in
theorem ct_X5_about (w : WLD) (M : Mem) (nv np : Nat) (x : Int) (hI : CInv M nv np) (hx : R32 x) : CtI w yX5_about cX5_about 2 (some .int) rm_X5_about [.ref (wa w 0), .int (iZ x)] M (fun z M1 => z = aboZ (M 1 3) (M 2 0 * M 2 1 * M 2 2) (M 25 0) (M 10 1) (M 2) x ∧ M1 = M) := by
  refine CtI.of (by decide) (Nat.le_of_ble_eq_true rfl) rfl rfl ?_
  intro k hkL C RT
  obtain ⟨hs, hnv, hn4, hnp, hcd, hst, hac, hlf, hrt, hed, har9, hvk, hVk, hld, hnu, hf, h11, h21, h23, hkn, hpl, hl0, hb0, hb5, hth, hrn, har26, hb25⟩ := id hI
  have hnp9 := np_eq hs hcd
  show WW w k 0 [(0, .ref (wa w 0)), (1, .int (iZ x))] [] M
  refine ww_iload_n C dX5_about_0 1 rfl ?_
  rcases Classical.em (0 ≤ x ∧ x ≤ 12) with ht_1 | ht_1
  · rcases (show x = 0 ∨ x = 1 ∨ x = 2 ∨ x = 3 ∨ x = 4 ∨ x = 5 ∨ x = 6 ∨ x = 7 ∨ x = 8 ∨ x = 9 ∨ x = 10 ∨ x = 11 ∨ x = 12 by omega) with ht_1 | ht_1 | ht_1 | ht_1 | ht_1 | ht_1 | ht_1 | ht_1 | ht_1 | ht_1 | ht_1 | ht_1 | ht_1
    · refine ww_tabIn C 68 0 dX5_about_1 ht_1 (by decide) (by decide) rfl (by decide) ?_
      refine ww_aload_n C dX5_about_68 0 rfl ?_
      refine gt_X5_12 C dX5_about_69 ?_
      refine gt_X5_55 C dX5_about_72 ?_
      exact RT _ _ _ _ dX5_about_75 (⟨by unfold aboZ; split <;> (try split) <;> (try split) <;> (try split) <;> (try split) <;> first | rfl | omega | contradiction, rfl⟩)
    · refine ww_tabIn C 76 1 dX5_about_1 ht_1 (by decide) (by decide) rfl (by decide) ?_
      refine ww_aload_n C dX5_about_76 0 rfl ?_
      refine gt_X5_12 C dX5_about_77 ?_
      refine gt_X5_188 C dX5_about_80 ?_
      exact RT _ _ _ _ dX5_about_83 (⟨by unfold aboZ; split <;> (try split) <;> (try split) <;> (try split) <;> (try split) <;> first | rfl | omega | contradiction, rfl⟩)
    · refine ww_tabIn C 84 2 dX5_about_1 ht_1 (by decide) (by decide) rfl (by decide) ?_
      refine ww_aload_n C dX5_about_84 0 rfl ?_
      refine gt_X5_40 C dX5_about_85 ?_
      refine gt_X5_63 C dX5_about_88 ?_
      refine ww_if_eq C 98 dX5_about_91 (by decide) (by omega) (fun c_91 => ?_) (fun c_91 => ?_)
      · refine ww_iconst C dX5_about_98 ?_
        exact RT _ _ _ _ dX5_about_99 (⟨by unfold aboZ; split <;> (try split) <;> (try split) <;> (try split) <;> (try split) <;> first | rfl | omega | contradiction, rfl⟩)
      · refine ww_iconst C dX5_about_94 ?_
        refine ww_goto C 99 dX5_about_95 (by decide) ?_
        exact RT _ _ _ _ dX5_about_99 (⟨by unfold aboZ; split <;> (try split) <;> (try split) <;> (try split) <;> (try split) <;> first | rfl | omega | contradiction, rfl⟩)
    · refine ww_tabIn C 100 3 dX5_about_1 ht_1 (by decide) (by decide) rfl (by decide) ?_
      refine ww_aload_n C dX5_about_100 0 rfl ?_
      refine gt_X5_19 C dX5_about_101 ?_
      refine gt_X5_100 C (Or.inl rfl) dX5_about_104 ?_
      exact RT _ _ _ _ dX5_about_107 (⟨by unfold aboZ; split <;> (try split) <;> (try split) <;> (try split) <;> (try split) <;> first | rfl | omega | contradiction, rfl⟩)
    · refine ww_tabIn C 121 4 dX5_about_1 ht_1 (by decide) (by decide) rfl (by decide) ?_
      refine ww_iconst C dX5_about_121 ?_
      exact RT _ _ _ _ dX5_about_122 (⟨by unfold aboZ; split <;> (try split) <;> (try split) <;> (try split) <;> (try split) <;> first | rfl | omega | contradiction, rfl⟩)
    · refine ww_tabIn C 121 5 dX5_about_1 ht_1 (by decide) (by decide) rfl (by decide) ?_
      refine ww_iconst C dX5_about_121 ?_
      exact RT _ _ _ _ dX5_about_122 (⟨by unfold aboZ; split <;> (try split) <;> (try split) <;> (try split) <;> (try split) <;> first | rfl | omega | contradiction, rfl⟩)
    · refine ww_tabIn C 121 6 dX5_about_1 ht_1 (by decide) (by decide) rfl (by decide) ?_
      refine ww_iconst C dX5_about_121 ?_
      exact RT _ _ _ _ dX5_about_122 (⟨by unfold aboZ; split <;> (try split) <;> (try split) <;> (try split) <;> (try split) <;> first | rfl | omega | contradiction, rfl⟩)
    · refine ww_tabIn C 121 7 dX5_about_1 ht_1 (by decide) (by decide) rfl (by decide) ?_
      refine ww_iconst C dX5_about_121 ?_
      exact RT _ _ _ _ dX5_about_122 (⟨by unfold aboZ; split <;> (try split) <;> (try split) <;> (try split) <;> (try split) <;> first | rfl | omega | contradiction, rfl⟩)
    · refine ww_tabIn C 121 8 dX5_about_1 ht_1 (by decide) (by decide) rfl (by decide) ?_
      refine ww_iconst C dX5_about_121 ?_
      exact RT _ _ _ _ dX5_about_122 (⟨by unfold aboZ; split <;> (try split) <;> (try split) <;> (try split) <;> (try split) <;> first | rfl | omega | contradiction, rfl⟩)
    · refine ww_tabIn C 121 9 dX5_about_1 ht_1 (by decide) (by decide) rfl (by decide) ?_
      refine ww_iconst C dX5_about_121 ?_
      exact RT _ _ _ _ dX5_about_122 (⟨by unfold aboZ; split <;> (try split) <;> (try split) <;> (try split) <;> (try split) <;> first | rfl | omega | contradiction, rfl⟩)
    · refine ww_tabIn C 108 10 dX5_about_1 ht_1 (by decide) (by decide) rfl (by decide) ?_
      refine ww_aload_n C dX5_about_108 0 rfl ?_
      refine gt_X5_12 C dX5_about_109 ?_
      refine gt_X5_191 C dX5_about_112 ?_
      refine ww_iload_n C dX5_about_115 1 rfl ?_
      refine ww_bipush C dX5_about_116 (by decide) ?_
      refine ww_isub C dX5_about_118 ?_
      refine al_2 C ((x - 10).toNat) (z := M 2 ((x - 10).toNat)) (by omega) (by omega) rfl dX5_about_119 ?_
      exact RT _ _ _ _ dX5_about_120 (⟨by unfold aboZ; split <;> (try split) <;> (try split) <;> (try split) <;> (try split) <;> first | rfl | omega | contradiction, rfl⟩)
    · refine ww_tabIn C 108 11 dX5_about_1 ht_1 (by decide) (by decide) rfl (by decide) ?_
      refine ww_aload_n C dX5_about_108 0 rfl ?_
      refine gt_X5_12 C dX5_about_109 ?_
      refine gt_X5_191 C dX5_about_112 ?_
      refine ww_iload_n C dX5_about_115 1 rfl ?_
      refine ww_bipush C dX5_about_116 (by decide) ?_
      refine ww_isub C dX5_about_118 ?_
      refine al_2 C ((x - 10).toNat) (z := M 2 ((x - 10).toNat)) (by omega) (by omega) rfl dX5_about_119 ?_
      exact RT _ _ _ _ dX5_about_120 (⟨by unfold aboZ; split <;> (try split) <;> (try split) <;> (try split) <;> (try split) <;> first | rfl | omega | contradiction, rfl⟩)
    · refine ww_tabIn C 108 12 dX5_about_1 ht_1 (by decide) (by decide) rfl (by decide) ?_
      refine ww_aload_n C dX5_about_108 0 rfl ?_
      refine gt_X5_12 C dX5_about_109 ?_
      refine gt_X5_191 C dX5_about_112 ?_
      refine ww_iload_n C dX5_about_115 1 rfl ?_
      refine ww_bipush C dX5_about_116 (by decide) ?_
      refine ww_isub C dX5_about_118 ?_
      refine al_2 C ((x - 10).toNat) (z := M 2 ((x - 10).toNat)) (by omega) (by omega) rfl dX5_about_119 ?_
      exact RT _ _ _ _ dX5_about_120 (⟨by unfold aboZ; split <;> (try split) <;> (try split) <;> (try split) <;> (try split) <;> first | rfl | omega | contradiction, rfl⟩)
  · refine ww_tabOut C 121 dX5_about_1 (by omega) (by omega) (by decide) ?_
    refine ww_iconst C dX5_about_121 ?_
    exact RT _ _ _ _ dX5_about_122 (⟨by unfold aboZ; split <;> (try split) <;> (try split) <;> (try split) <;> (try split) <;> first | rfl | omega | contradiction, rfl⟩)
