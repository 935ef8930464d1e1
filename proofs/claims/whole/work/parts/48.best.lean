set_option maxRecDepth 100000 in
set_option maxHeartbeats 4000000 in
theorem ct_X5_best_11 (w : WLD) (M : Mem) (nv np : Nat) (hI : CInv M nv np) (hsi : SInv M) : CtI w yX5_best cX5_best 5 (some .int) rm_X5_best [.ref (wa w 0), .int (iZ 1), .int (iZ 1)] M (fun z M1 => bstR M M1 nv np 1 1 z) := by
  refine CtI.of (by decide) (Nat.le_of_ble_eq_true rfl) rfl rfl ?_
  intro k hkL C RT
  obtain ⟨hs, hnv, hn4, hnp, hcd, hst, hac, hlf, hrt, hed, har9, hvk, hVk, hld, hnu, hf, h11, h21, h23, hkn, hpl, hl0, hb0, hb5, hth, hrn, har26, hb25⟩ := id hI
  show WW w k 0 [(0, .ref (wa w 0)), (1, .int (iZ 1)), (2, .int (iZ 1))] [] M
  refine ww_iload_n C dX5_best_0 1 rfl ?_
  refine ww_iconst C dX5_best_1 ?_
  refine ww_icmp_ne C 19 dX5_best_2 (by decide) (by omega) (by omega) (fun c_2 => ?_) (fun c_2 => ?_)
  · exact absurd c_2 (by decide)
  · refine ww_iload_n C dX5_best_5 2 rfl ?_
    refine ww_iconst C dX5_best_6 ?_
    refine ww_icmp_eq C 15 dX5_best_7 (by decide) (by omega) (by omega) (fun c_7 => ?_) (fun c_7 => ?_)
    · refine ww_iconst C dX5_best_15 ?_
      refine ww_goto C 20 dX5_best_16 (by decide) ?_
      refine ww_istore_n C dX5_best_20 (lv' := [(3, .int (iZ 1)), (0, .ref (wa w 0)), (1, .int (iZ 1)), (2, .int (iZ 1))]) (by rw [hkL]; decide) rfl ?_
      refine ww_iload_n C dX5_best_21 2 rfl ?_
      refine ww_iconst C dX5_best_22 ?_
      refine ww_icmp_ne C 35 dX5_best_23 (by decide) (by omega) (by omega) (fun c_23 => ?_) (fun c_23 => ?_)
      · refine ww_iconst C dX5_best_35 ?_
        refine ww_istore C dX5_best_36 (lv' := [(4, .int (iZ 0)), (3, .int (iZ 1)), (0, .ref (wa w 0)), (1, .int (iZ 1)), (2, .int (iZ 1))]) (by rw [hkL]; decide) rfl ?_
        refine ww_iload_n C dX5_best_38 1 rfl ?_
        refine ww_if_ne C 49 dX5_best_39 (by decide) (by omega) (fun c_39 => ?_) (fun c_39 => ?_)
        · refine ww_aload_n C dX5_best_49 2 rfl ?_
          refine gt_X5_33 C dX5_best_50 ?_
          refine ww_aload_n C dX5_best_53 2 rfl ?_
          refine gt_X5_12 C dX5_best_54 ?_
          refine ww_iload_n C dX5_best_57 3 rfl ?_
          refine ww_iload_n C dX5_best_58 4 rfl ?_
          refine ww_callV C (As := [.ref (wa w 1), .int (iZ 1), .int (iZ 1)]) 19 (by decide) (ct_X3_find_1 w M nv np 1 (hs) (hst) (hnv) (hn4) (hnp) (hcd) (by omega) (hsi)) mf_X3_find ml_X5_150 rfl rfl (by decide) rfl rfl (Nat.le_of_ble_eq_true rfl) dX5_best_59 (fun z_59 M_59 hp_59 => ?_)
          obtain ⟨hz_59, hss_59, hfr_59⟩ := hp_59
          have hF := hss_59.2.2.2.2.2.2.2
          refine ww_if_ne C 67 dX5_best_62 (by decide) (by omega) (fun c_62 => ?_) (fun c_62 => ?_)
          · refine ww_aload_n C dX5_best_67 2 rfl ?_
            refine gt_X5_19 C dX5_best_68 ?_
            refine ww_aload_n C dX5_best_71 2 rfl ?_
            refine gt_X5_33 C dX5_best_72 ?_
            refine gt_X5_154 C dX5_best_75 ?_
            refine ww_callVV C (As := [.ref (wa w 20)]) 10 (pl_lt (Or.inl rfl)) (ct_X1_takeNumbers_10 w M_59 ) mf_X1_takeNumbers ml_X5_157 (pl_cell (Or.inl rfl) _) rfl (by decide) rfl rfl (Nat.le_of_ble_eq_true rfl) dX5_best_78 (fun M_78 hp_78 => ?_)
            rw [hp_78]
            refine ww_mem (M1 := ups M_59 11 (fun j => if j < 9 then (M_59 21) j else (M_59 11) j)) rfl ?_
            refine ww_aload_n C dX5_best_81 2 rfl ?_
            refine ww_callVV C (As := []) 0 (by decide) (ct_X5_forgetPlaces w (ups M_59 11 (fun j => if j < 9 then (M_59 21) j else (M_59 11) j)) ) mf_X5_forgetPlaces ml_X5_52 rfl rfl (by decide) rfl rfl (Nat.le_of_ble_eq_true rfl) dX5_best_82 (fun M_82 hp_82 => ?_)
            rw [hp_82]
            refine ww_mem (M1 := ups (ups (ups M_59 11 (fun j => if j < 9 then (M_59 21) j else (M_59 11) j)) 12 (up1 (M_59 12) 3 0)) 25 (up1 (M_59 25) 0 0)) rfl ?_
            refine ww_aload_n C dX5_best_85 2 rfl ?_
            refine ww_callVV C (As := []) 0 (by decide) (ct_X5_settle w (ups (ups (ups M_59 11 (fun j => if j < 9 then (M_59 21) j else (M_59 11) j)) 12 (up1 (M_59 12) 3 0)) 25 (up1 (M_59 25) 0 0)) nv np (show CInv (ups (ups (ups M_59 11 (fun j => if j < 9 then (M_59 21) j else (M_59 11) j)) 12 (up1 (M_59 12) 3 0)) 25 (up1 (M_59 25) 0 0)) nv np from bst_inv (by omega) hI hss_59 hfr_59 (by omega))) mf_X5_settle ml_X5_114 rfl rfl (by decide) rfl rfl (Nat.le_of_ble_eq_true rfl) dX5_best_86 (fun M_86 hp_86 => ?_)
            obtain ⟨hse_86, hk_86⟩ := hp_86
            refine ww_aload_n C dX5_best_89 2 rfl ?_
            refine gt_X5_26 C dX5_best_90 ?_
            refine gt_X5_117 C dX5_best_93 ?_
            exact RT _ _ _ _ dX5_best_96 (bst_yes (by omega) hI hss_59 hfr_59 (by omega) hse_86 hk_86)
          · refine ww_iconst C dX5_best_65 ?_
            exact RT _ _ _ _ dX5_best_66 (bst_no hI hss_59 hfr_59 (by omega))
        · exact absurd c_39 (by decide)
      · exact absurd c_23 (by decide)
    · exact absurd c_7 (by decide)
set_option maxRecDepth 100000 in
set_option maxHeartbeats 4000000 in
theorem ct_X5_best_12 (w : WLD) (M : Mem) (nv np : Nat) (hI : CInv M nv np) (hsi : SInv M) : CtI w yX5_best cX5_best 5 (some .int) rm_X5_best [.ref (wa w 0), .int (iZ 1), .int (iZ 2)] M (fun z M1 => bstR M M1 nv np 1 2 z) := by
  refine CtI.of (by decide) (Nat.le_of_ble_eq_true rfl) rfl rfl ?_
  intro k hkL C RT
  obtain ⟨hs, hnv, hn4, hnp, hcd, hst, hac, hlf, hrt, hed, har9, hvk, hVk, hld, hnu, hf, h11, h21, h23, hkn, hpl, hl0, hb0, hb5, hth, hrn, har26, hb25⟩ := id hI
  show WW w k 0 [(0, .ref (wa w 0)), (1, .int (iZ 1)), (2, .int (iZ 2))] [] M
  refine ww_iload_n C dX5_best_0 1 rfl ?_
  refine ww_iconst C dX5_best_1 ?_
  refine ww_icmp_ne C 19 dX5_best_2 (by decide) (by omega) (by omega) (fun c_2 => ?_) (fun c_2 => ?_)
  · exact absurd c_2 (by decide)
  · refine ww_iload_n C dX5_best_5 2 rfl ?_
    refine ww_iconst C dX5_best_6 ?_
    refine ww_icmp_eq C 15 dX5_best_7 (by decide) (by omega) (by omega) (fun c_7 => ?_) (fun c_7 => ?_)
    · exact absurd c_7 (by decide)
    · refine ww_iload_n C dX5_best_10 2 rfl ?_
      refine ww_iconst C dX5_best_11 ?_
      refine ww_icmp_ne C 19 dX5_best_12 (by decide) (by omega) (by omega) (fun c_12 => ?_) (fun c_12 => ?_)
      · exact absurd c_12 (by decide)
      · refine ww_iconst C dX5_best_15 ?_
        refine ww_goto C 20 dX5_best_16 (by decide) ?_
        refine ww_istore_n C dX5_best_20 (lv' := [(3, .int (iZ 1)), (0, .ref (wa w 0)), (1, .int (iZ 1)), (2, .int (iZ 2))]) (by rw [hkL]; decide) rfl ?_
        refine ww_iload_n C dX5_best_21 2 rfl ?_
        refine ww_iconst C dX5_best_22 ?_
        refine ww_icmp_ne C 35 dX5_best_23 (by decide) (by omega) (by omega) (fun c_23 => ?_) (fun c_23 => ?_)
        · refine ww_iconst C dX5_best_35 ?_
          refine ww_istore C dX5_best_36 (lv' := [(4, .int (iZ 0)), (3, .int (iZ 1)), (0, .ref (wa w 0)), (1, .int (iZ 1)), (2, .int (iZ 2))]) (by rw [hkL]; decide) rfl ?_
          refine ww_iload_n C dX5_best_38 1 rfl ?_
          refine ww_if_ne C 49 dX5_best_39 (by decide) (by omega) (fun c_39 => ?_) (fun c_39 => ?_)
          · refine ww_aload_n C dX5_best_49 2 rfl ?_
            refine gt_X5_33 C dX5_best_50 ?_
            refine ww_aload_n C dX5_best_53 2 rfl ?_
            refine gt_X5_12 C dX5_best_54 ?_
            refine ww_iload_n C dX5_best_57 3 rfl ?_
            refine ww_iload_n C dX5_best_58 4 rfl ?_
            refine ww_callV C (As := [.ref (wa w 1), .int (iZ 1), .int (iZ 2)]) 19 (by decide) (ct_X3_find_2 w M nv np 1 (hs) (hst) (hnv) (hn4) (hnp) (hcd) (by omega) (hsi)) mf_X3_find ml_X5_150 rfl rfl (by decide) rfl rfl (Nat.le_of_ble_eq_true rfl) dX5_best_59 (fun z_59 M_59 hp_59 => ?_)
            obtain ⟨hz_59, hss_59, hfr_59⟩ := hp_59
            have hF := hss_59.2.2.2.2.2.2.2
            refine ww_if_ne C 67 dX5_best_62 (by decide) (by omega) (fun c_62 => ?_) (fun c_62 => ?_)
            · refine ww_aload_n C dX5_best_67 2 rfl ?_
              refine gt_X5_19 C dX5_best_68 ?_
              refine ww_aload_n C dX5_best_71 2 rfl ?_
              refine gt_X5_33 C dX5_best_72 ?_
              refine gt_X5_154 C dX5_best_75 ?_
              refine ww_callVV C (As := [.ref (wa w 20)]) 10 (pl_lt (Or.inl rfl)) (ct_X1_takeNumbers_10 w M_59 ) mf_X1_takeNumbers ml_X5_157 (pl_cell (Or.inl rfl) _) rfl (by decide) rfl rfl (Nat.le_of_ble_eq_true rfl) dX5_best_78 (fun M_78 hp_78 => ?_)
              rw [hp_78]
              refine ww_mem (M1 := ups M_59 11 (fun j => if j < 9 then (M_59 21) j else (M_59 11) j)) rfl ?_
              refine ww_aload_n C dX5_best_81 2 rfl ?_
              refine ww_callVV C (As := []) 0 (by decide) (ct_X5_forgetPlaces w (ups M_59 11 (fun j => if j < 9 then (M_59 21) j else (M_59 11) j)) ) mf_X5_forgetPlaces ml_X5_52 rfl rfl (by decide) rfl rfl (Nat.le_of_ble_eq_true rfl) dX5_best_82 (fun M_82 hp_82 => ?_)
              rw [hp_82]
              refine ww_mem (M1 := ups (ups (ups M_59 11 (fun j => if j < 9 then (M_59 21) j else (M_59 11) j)) 12 (up1 (M_59 12) 3 0)) 25 (up1 (M_59 25) 0 0)) rfl ?_
              refine ww_aload_n C dX5_best_85 2 rfl ?_
              refine ww_callVV C (As := []) 0 (by decide) (ct_X5_settle w (ups (ups (ups M_59 11 (fun j => if j < 9 then (M_59 21) j else (M_59 11) j)) 12 (up1 (M_59 12) 3 0)) 25 (up1 (M_59 25) 0 0)) nv np (show CInv (ups (ups (ups M_59 11 (fun j => if j < 9 then (M_59 21) j else (M_59 11) j)) 12 (up1 (M_59 12) 3 0)) 25 (up1 (M_59 25) 0 0)) nv np from bst_inv (by omega) hI hss_59 hfr_59 (by omega))) mf_X5_settle ml_X5_114 rfl rfl (by decide) rfl rfl (Nat.le_of_ble_eq_true rfl) dX5_best_86 (fun M_86 hp_86 => ?_)
              obtain ⟨hse_86, hk_86⟩ := hp_86
              refine ww_aload_n C dX5_best_89 2 rfl ?_
              refine gt_X5_26 C dX5_best_90 ?_
              refine gt_X5_117 C dX5_best_93 ?_
              exact RT _ _ _ _ dX5_best_96 (bst_yes (by omega) hI hss_59 hfr_59 (by omega) hse_86 hk_86)
            · refine ww_iconst C dX5_best_65 ?_
              exact RT _ _ _ _ dX5_best_66 (bst_no hI hss_59 hfr_59 (by omega))
          · exact absurd c_39 (by decide)
        · exact absurd c_23 (by decide)
set_option maxRecDepth 100000 in
set_option maxHeartbeats 4000000 in
theorem ct_X5_best_21 (w : WLD) (M : Mem) (nv np : Nat) (hI : CInv M nv np) (hsi : SInv M) : CtI w yX5_best cX5_best 5 (some .int) rm_X5_best [.ref (wa w 0), .int (iZ 2), .int (iZ 1)] M (fun z M1 => bstR M M1 nv np 2 1 z) := by
  refine CtI.of (by decide) (Nat.le_of_ble_eq_true rfl) rfl rfl ?_
  intro k hkL C RT
  obtain ⟨hs, hnv, hn4, hnp, hcd, hst, hac, hlf, hrt, hed, har9, hvk, hVk, hld, hnu, hf, h11, h21, h23, hkn, hpl, hl0, hb0, hb5, hth, hrn, har26, hb25⟩ := id hI
  show WW w k 0 [(0, .ref (wa w 0)), (1, .int (iZ 2)), (2, .int (iZ 1))] [] M
  refine ww_iload_n C dX5_best_0 1 rfl ?_
  refine ww_iconst C dX5_best_1 ?_
  refine ww_icmp_ne C 19 dX5_best_2 (by decide) (by omega) (by omega) (fun c_2 => ?_) (fun c_2 => ?_)
  · refine ww_iconst C dX5_best_19 ?_
    refine ww_istore_n C dX5_best_20 (lv' := [(3, .int (iZ 0)), (0, .ref (wa w 0)), (1, .int (iZ 2)), (2, .int (iZ 1))]) (by rw [hkL]; decide) rfl ?_
    refine ww_iload_n C dX5_best_21 2 rfl ?_
    refine ww_iconst C dX5_best_22 ?_
    refine ww_icmp_ne C 35 dX5_best_23 (by decide) (by omega) (by omega) (fun c_23 => ?_) (fun c_23 => ?_)
    · exact absurd c_23 (by decide)
    · refine ww_iload_n C dX5_best_26 3 rfl ?_
      refine ww_iconst C dX5_best_27 ?_
      refine ww_icmp_ne C 35 dX5_best_28 (by decide) (by omega) (by omega) (fun c_28 => ?_) (fun c_28 => ?_)
      · exact absurd c_28 (by decide)
      · refine ww_iconst C dX5_best_31 ?_
        refine ww_goto C 36 dX5_best_32 (by decide) ?_
        refine ww_istore C dX5_best_36 (lv' := [(4, .int (iZ 1)), (3, .int (iZ 0)), (0, .ref (wa w 0)), (1, .int (iZ 2)), (2, .int (iZ 1))]) (by rw [hkL]; decide) rfl ?_
        refine ww_iload_n C dX5_best_38 1 rfl ?_
        refine ww_if_ne C 49 dX5_best_39 (by decide) (by omega) (fun c_39 => ?_) (fun c_39 => ?_)
        · exact absurd c_39 (by decide)
        · refine ww_iload C dX5_best_42 0 rfl ?_
          refine ww_if_ne C 49 dX5_best_44 (by decide) (by omega) (fun c_44 => ?_) (fun c_44 => ?_)
          · refine ww_aload_n C dX5_best_49 2 rfl ?_
            refine gt_X5_33 C dX5_best_50 ?_
            refine ww_aload_n C dX5_best_53 2 rfl ?_
            refine gt_X5_12 C dX5_best_54 ?_
            refine ww_iload_n C dX5_best_57 3 rfl ?_
            refine ww_iload_n C dX5_best_58 4 rfl ?_
            refine ww_callV C (As := [.ref (wa w 1), .int (iZ 2), .int (iZ 1)]) 19 (by decide) (ct_X3_find_1 w M nv np 2 (hs) (hst) (hnv) (hn4) (hnp) (hcd) (by omega) (hsi)) mf_X3_find ml_X5_150 rfl rfl (by decide) rfl rfl (Nat.le_of_ble_eq_true rfl) dX5_best_59 (fun z_59 M_59 hp_59 => ?_)
            obtain ⟨hz_59, hss_59, hfr_59⟩ := hp_59
            have hF := hss_59.2.2.2.2.2.2.2
            refine ww_if_ne C 67 dX5_best_62 (by decide) (by omega) (fun c_62 => ?_) (fun c_62 => ?_)
            · refine ww_aload_n C dX5_best_67 2 rfl ?_
              refine gt_X5_19 C dX5_best_68 ?_
              refine ww_aload_n C dX5_best_71 2 rfl ?_
              refine gt_X5_33 C dX5_best_72 ?_
              refine gt_X5_154 C dX5_best_75 ?_
              refine ww_callVV C (As := [.ref (wa w 20)]) 10 (pl_lt (Or.inl rfl)) (ct_X1_takeNumbers_10 w M_59 ) mf_X1_takeNumbers ml_X5_157 (pl_cell (Or.inl rfl) _) rfl (by decide) rfl rfl (Nat.le_of_ble_eq_true rfl) dX5_best_78 (fun M_78 hp_78 => ?_)
              rw [hp_78]
              refine ww_mem (M1 := ups M_59 11 (fun j => if j < 9 then (M_59 21) j else (M_59 11) j)) rfl ?_
              refine ww_aload_n C dX5_best_81 2 rfl ?_
              refine ww_callVV C (As := []) 0 (by decide) (ct_X5_forgetPlaces w (ups M_59 11 (fun j => if j < 9 then (M_59 21) j else (M_59 11) j)) ) mf_X5_forgetPlaces ml_X5_52 rfl rfl (by decide) rfl rfl (Nat.le_of_ble_eq_true rfl) dX5_best_82 (fun M_82 hp_82 => ?_)
              rw [hp_82]
              refine ww_mem (M1 := ups (ups (ups M_59 11 (fun j => if j < 9 then (M_59 21) j else (M_59 11) j)) 12 (up1 (M_59 12) 3 0)) 25 (up1 (M_59 25) 0 0)) rfl ?_
              refine ww_aload_n C dX5_best_85 2 rfl ?_
              refine ww_callVV C (As := []) 0 (by decide) (ct_X5_settle w (ups (ups (ups M_59 11 (fun j => if j < 9 then (M_59 21) j else (M_59 11) j)) 12 (up1 (M_59 12) 3 0)) 25 (up1 (M_59 25) 0 0)) nv np (show CInv (ups (ups (ups M_59 11 (fun j => if j < 9 then (M_59 21) j else (M_59 11) j)) 12 (up1 (M_59 12) 3 0)) 25 (up1 (M_59 25) 0 0)) nv np from bst_inv (by omega) hI hss_59 hfr_59 (by omega))) mf_X5_settle ml_X5_114 rfl rfl (by decide) rfl rfl (Nat.le_of_ble_eq_true rfl) dX5_best_86 (fun M_86 hp_86 => ?_)
              obtain ⟨hse_86, hk_86⟩ := hp_86
              refine ww_aload_n C dX5_best_89 2 rfl ?_
              refine gt_X5_26 C dX5_best_90 ?_
              refine gt_X5_117 C dX5_best_93 ?_
              exact RT _ _ _ _ dX5_best_96 (bst_yes (by omega) hI hss_59 hfr_59 (by omega) hse_86 hk_86)
            · refine ww_iconst C dX5_best_65 ?_
              exact RT _ _ _ _ dX5_best_66 (bst_no hI hss_59 hfr_59 (by omega))
          · exact absurd c_44 (by decide)
  · exact absurd c_2 (by decide)
set_option maxRecDepth 100000 in
set_option maxHeartbeats 4000000 in
theorem ct_X5_best_0 (w : WLD) (M : Mem) (b ln : Int) (h1 : R32 b) (h2 : R32 ln) (hno : ¬ ((b = 1 ∧ (ln = 1 ∨ ln = 2)) ∨ (b = 2 ∧ ln = 1))) : CtI w yX5_best cX5_best 5 (some .int) rm_X5_best [.ref (wa w 0), .int (iZ b), .int (iZ ln)] M (fun z M1 => z = -1 ∧ M1 = M) := by
  refine CtI.of (by decide) (Nat.le_of_ble_eq_true rfl) rfl rfl ?_
  intro k hkL C RT
  show WW w k 0 [(0, .ref (wa w 0)), (1, .int (iZ b)), (2, .int (iZ ln))] [] M
  refine ww_iload_n C dX5_best_0 1 rfl ?_
  refine ww_iconst C dX5_best_1 ?_
  refine ww_icmp_ne C 19 dX5_best_2 (by decide) (by omega) (by omega) (fun c_2 => ?_) (fun c_2 => ?_)
  · refine ww_iconst C dX5_best_19 ?_
    refine ww_istore_n C dX5_best_20 (lv' := [(3, .int (iZ 0)), (0, .ref (wa w 0)), (1, .int (iZ b)), (2, .int (iZ ln))]) (by rw [hkL]; decide) rfl ?_
    refine ww_iload_n C dX5_best_21 2 rfl ?_
    refine ww_iconst C dX5_best_22 ?_
    refine ww_icmp_ne C 35 dX5_best_23 (by decide) (by omega) (by omega) (fun c_23 => ?_) (fun c_23 => ?_)
    · refine ww_iconst C dX5_best_35 ?_
      refine ww_istore C dX5_best_36 (lv' := [(4, .int (iZ 0)), (3, .int (iZ 0)), (0, .ref (wa w 0)), (1, .int (iZ b)), (2, .int (iZ ln))]) (by rw [hkL]; decide) rfl ?_
      refine ww_iload_n C dX5_best_38 1 rfl ?_
      refine ww_if_ne C 49 dX5_best_39 (by decide) (by omega) (fun c_39 => ?_) (fun c_39 => ?_)
      · exact absurd c_39 (by decide)
      · refine ww_iload C dX5_best_42 0 rfl ?_
        refine ww_if_ne C 49 dX5_best_44 (by decide) (by omega) (fun c_44 => ?_) (fun c_44 => ?_)
        · exact absurd c_44 (by decide)
        · refine ww_iconst C dX5_best_47 ?_
          exact RT _ _ _ _ dX5_best_48 (⟨rfl, rfl⟩)
    · refine ww_iload_n C dX5_best_26 3 rfl ?_
      refine ww_iconst C dX5_best_27 ?_
      refine ww_icmp_ne C 35 dX5_best_28 (by decide) (by omega) (by omega) (fun c_28 => ?_) (fun c_28 => ?_)
      · refine ww_iconst C dX5_best_35 ?_
        refine ww_istore C dX5_best_36 (lv' := [(4, .int (iZ 0)), (3, .int (iZ 0)), (0, .ref (wa w 0)), (1, .int (iZ b)), (2, .int (iZ ln))]) (by rw [hkL]; decide) rfl ?_
        refine ww_iload_n C dX5_best_38 1 rfl ?_
        refine ww_if_ne C 49 dX5_best_39 (by decide) (by omega) (fun c_39 => ?_) (fun c_39 => ?_)
        · exact absurd c_39 (by decide)
        · refine ww_iload C dX5_best_42 0 rfl ?_
          refine ww_if_ne C 49 dX5_best_44 (by decide) (by omega) (fun c_44 => ?_) (fun c_44 => ?_)
          · exact absurd c_44 (by decide)
          · refine ww_iconst C dX5_best_47 ?_
            exact RT _ _ _ _ dX5_best_48 (⟨rfl, rfl⟩)
      · exfalso; omega
  · refine ww_iload_n C dX5_best_5 2 rfl ?_
    refine ww_iconst C dX5_best_6 ?_
    refine ww_icmp_eq C 15 dX5_best_7 (by decide) (by omega) (by omega) (fun c_7 => ?_) (fun c_7 => ?_)
    · exfalso; omega
    · refine ww_iload_n C dX5_best_10 2 rfl ?_
      refine ww_iconst C dX5_best_11 ?_
      refine ww_icmp_ne C 19 dX5_best_12 (by decide) (by omega) (by omega) (fun c_12 => ?_) (fun c_12 => ?_)
      · refine ww_iconst C dX5_best_19 ?_
        refine ww_istore_n C dX5_best_20 (lv' := [(3, .int (iZ 0)), (0, .ref (wa w 0)), (1, .int (iZ b)), (2, .int (iZ ln))]) (by rw [hkL]; decide) rfl ?_
        refine ww_iload_n C dX5_best_21 2 rfl ?_
        refine ww_iconst C dX5_best_22 ?_
        refine ww_icmp_ne C 35 dX5_best_23 (by decide) (by omega) (by omega) (fun c_23 => ?_) (fun c_23 => ?_)
        · refine ww_iconst C dX5_best_35 ?_
          refine ww_istore C dX5_best_36 (lv' := [(4, .int (iZ 0)), (3, .int (iZ 0)), (0, .ref (wa w 0)), (1, .int (iZ b)), (2, .int (iZ ln))]) (by rw [hkL]; decide) rfl ?_
          refine ww_iload_n C dX5_best_38 1 rfl ?_
          refine ww_if_ne C 49 dX5_best_39 (by decide) (by omega) (fun c_39 => ?_) (fun c_39 => ?_)
          · exact absurd c_39 (by decide)
          · refine ww_iload C dX5_best_42 0 rfl ?_
            refine ww_if_ne C 49 dX5_best_44 (by decide) (by omega) (fun c_44 => ?_) (fun c_44 => ?_)
            · exact absurd c_44 (by decide)
            · refine ww_iconst C dX5_best_47 ?_
              exact RT _ _ _ _ dX5_best_48 (⟨rfl, rfl⟩)
        · refine ww_iload_n C dX5_best_26 3 rfl ?_
          refine ww_iconst C dX5_best_27 ?_
          refine ww_icmp_ne C 35 dX5_best_28 (by decide) (by omega) (by omega) (fun c_28 => ?_) (fun c_28 => ?_)
          · refine ww_iconst C dX5_best_35 ?_
            refine ww_istore C dX5_best_36 (lv' := [(4, .int (iZ 0)), (3, .int (iZ 0)), (0, .ref (wa w 0)), (1, .int (iZ b)), (2, .int (iZ ln))]) (by rw [hkL]; decide) rfl ?_
            refine ww_iload_n C dX5_best_38 1 rfl ?_
            refine ww_if_ne C 49 dX5_best_39 (by decide) (by omega) (fun c_39 => ?_) (fun c_39 => ?_)
            · exact absurd c_39 (by decide)
            · refine ww_iload C dX5_best_42 0 rfl ?_
              refine ww_if_ne C 49 dX5_best_44 (by decide) (by omega) (fun c_44 => ?_) (fun c_44 => ?_)
              · exact absurd c_44 (by decide)
              · refine ww_iconst C dX5_best_47 ?_
                exact RT _ _ _ _ dX5_best_48 (⟨rfl, rfl⟩)
          · exfalso; omega
      · exfalso; omega
