set_option maxRecDepth 100000 in
set_option maxHeartbeats 4000000 in
theorem ct_X3_consider (w : WLD) (M : Mem) (nv np : Nat) (bt : Int) (hs : SzOk (M 2)) (hst : StOk (M 4)) (hnv : M 1 3 = (nv : Int)) (hn4 : nv ≤ 4) (hnp : M 1 2 = (np : Int)) (hcd : CdOk (M 2) (M 3) np) (h2 : Nu2 (M 23)) (hfi : M 23 3 ≠ 0 ∨ M 23 4 ≠ 0 ∨ M 23 5 ≠ 0) (ha : ∀ d : Nat, -8 ≤ M 24 d ∧ M 24 d ≤ 8) (hr1 : R32 (M 19 1)) (hr2 : R32 (M 19 2)) (hF : M 19 3 = 0 ∨ M 19 3 = 1) (hbt : R32 bt) : CtV w yX3_consider cX3_consider 5 rm_X3_consider [.ref (wa w 19), .ref (wa w 1), .int (iZ bt)] M (fun M1 => consR M M1 nv bt) := by
  refine CtV.of (by decide) (Nat.le_of_ble_eq_true rfl) rfl rfl ?_
  intro k hkL C RT
  have hck := cells_ok hs h2 hfi
  have hnu := Nu2_3 h2
  have hdb := dif_b (M 2) (keyZ (M 23) (M 2) 1) 512
  show WW w k 0 [(0, .ref (wa w 19)), (1, .ref (wa w 1)), (2, .int (iZ bt))] [] M
  refine ww_aload_n C dX3_consider_0 0 rfl ?_
  refine gt_X3_29 C dX3_consider_1 ?_
  refine ww_aload_n C dX3_consider_4 1 rfl ?_
  refine ww_callV C (As := [.ref (wa w 1)]) 22 (pl_lt (Or.inr (Or.inr rfl))) (ct_X1_tooFar w M 22 nv (Or.inr (Or.inr rfl)) (hnu) (hnv) (by omega) (hs) (hst)) mf_X1_tooFar ml_X3_55 (pl_cell (Or.inr (Or.inr rfl)) _) rfl (by decide) rfl rfl (Nat.le_of_ble_eq_true rfl) dX3_consider_5 (fun z_5 M_5 hp_5 => ?_)
  obtain ⟨hf_5, hm_5⟩ := hp_5
  have hf_5 : isFst (farP (M 23) (M 2) (M 4)) nv z_5 := hf_5
  have r5 := isFst_R (by omega) hf_5
  have n5 := isFst_neg hf_5
  refine ww_mem (M1 := M) (hm_5) ?_
  refine ww_iconst C dX3_consider_8 ?_
  refine ww_icmp_eq C 13 dX3_consider_9 (by decide) (by omega) (by omega) (fun c_9 => ?_) (fun c_9 => ?_)
  · refine ww_aload_n C dX3_consider_13 0 rfl ?_
    refine ww_aload_n C dX3_consider_14 1 rfl ?_
    refine ww_callV C (As := [.ref (wa w 1)]) 19 (by decide) (ct_X3_countCells w M np (hs) (hnp) (hcd) (h2) (hck) (hfi) (ha)) mf_X3_countCells ml_X3_58 rfl rfl (by decide) rfl rfl (Nat.le_of_ble_eq_true rfl) dX3_consider_15 (fun z_15 M_15 hp_15 => ?_)
    obtain ⟨hz_15, ac_15, hac_15, hm_15⟩ := hp_15
    refine ww_mem (M1 := ups M 24 ac_15) (hm_15) ?_
    refine ww_top (b := difK (M 2) (keyZ (M 23) (M 2) 1) 512) (hz_15) ?_
    refine ww_istore_n C dX3_consider_18 (lv' := [(3, .int (iZ (difK (M 2) (keyZ (M 23) (M 2) 1) 512))), (0, .ref (wa w 19)), (1, .ref (wa w 1)), (2, .int (iZ bt))]) (by rw [hkL]; decide) rfl ?_
    refine ww_aload_n C dX3_consider_19 1 rfl ?_
    refine gt_X3_25 C dX3_consider_20 ?_
    refine ww_top (b := M 19 3) rfl ?_
    refine ww_if_eq C 42 dX3_consider_23 (by decide) (by omega) (fun c_23 => ?_) (fun c_23 => ?_)
    · refine ww_iconst C dX3_consider_42 ?_
      refine ww_goto C 47 dX3_consider_43 (by decide) ?_
      refine ww_istore C dX3_consider_47 (lv' := [(4, .int (iZ 1)), (3, .int (iZ (difK (M 2) (keyZ (M 23) (M 2) 1) 512))), (0, .ref (wa w 19)), (1, .ref (wa w 1)), (2, .int (iZ bt))]) (by rw [hkL]; decide) rfl ?_
      refine ww_iload C dX3_consider_49 0 rfl ?_
      refine ww_if_eq C 89 dX3_consider_51 (by decide) (by omega) (fun c_51 => ?_) (fun c_51 => ?_)
      · exact absurd c_51 (by decide)
      · refine ww_aload_n C dX3_consider_54 2 rfl ?_
        refine ww_aload_n C dX3_consider_55 3 rfl ?_
        refine ww_iload_n C dX3_consider_56 1 rfl ?_
        refine ww_callV C (As := [.ref (wa w 1), .int (iZ (difK (M 2) (keyZ (M 23) (M 2) 1) 512))]) 19 (by decide) (ct_X3_partsAll w (ups M 24 ac_15) np (difK (M 2) (keyZ (M 23) (M 2) 1) 512) (show SzOk ((M 2)) from hs) (show (M 1) 2 = (np : Int) from hnp) (show CdOk ((M 2)) ((M 3)) np from hcd) (show Nu2 ((M 23)) from h2) (show cellsOk ((M 23)) ((M 2)) from hck) (show ∀ d : Nat, -8 ≤ ac_15 d ∧ ac_15 d ≤ 8 from hac_15) (show (difK (M 2) (keyZ (M 23) (M 2) 1) 512) = difK ((M 2)) (keyZ ((M 23)) ((M 2)) 1) 512 from rfl)) mf_X3_partsAll ml_X3_61 rfl rfl (by decide) rfl rfl (Nat.le_of_ble_eq_true rfl) dX3_consider_57 (fun z_57 M_57 hp_57 => ?_)
        obtain ⟨hz_57, hpa_57, ac_57, hac_57, hm_57⟩ := hp_57
        have hpa_57 : z_57 = 1 ↔ ¬ metZ (M 23) (M 2) := hpa_57
        refine ww_mem (M1 := ups M 24 ac_57) (by rw [hm_57]; exact ups_ups) ?_
        refine ww_if_eq C 89 dX3_consider_60 (by decide) (by omega) (fun c_60 => ?_) (fun c_60 => ?_)
        · exact RT _ _ _ dX3_consider_89 (by first | exact ⟨ac_57, hac_57, Or.inl ⟨⟨n5.mp (by omega), hpa_57.mp (by omega), by omega⟩, rfl⟩⟩ | exact ⟨ac_15, hac_15, Or.inr ⟨fun h9 => by have e9 := h9.2.2; omega, rfl⟩⟩ | exact ⟨ac_57, hac_57, Or.inr ⟨fun h9 => by have e9 := hpa_57.mpr h9.2.1; omega, rfl⟩⟩)
        · refine ww_aload_n C dX3_consider_63 2 rfl ?_
          refine ww_iconst C dX3_consider_64 ?_
          refine pt_X3_25 C (by decide) dX3_consider_65 ?_
          refine ww_mem (M1 := ups (ups M 24 ac_57) 19 (up1 (M 19) 3 1)) rfl ?_
          refine ww_aload_n C dX3_consider_68 2 rfl ?_
          refine ww_iload_n C dX3_consider_69 4 rfl ?_
          refine pt_X3_18 C dX3_consider_70 ?_
          refine ww_mem (M1 := ups (ups M 24 ac_57) 19 (up1 (up1 (M 19) 3 1) 1 bt)) (ups_ups) ?_
          refine ww_aload_n C dX3_consider_73 2 rfl ?_
          refine ww_iload_n C dX3_consider_74 1 rfl ?_
          refine pt_X3_22 C dX3_consider_75 ?_
          refine ww_mem (M1 := ups (ups M 24 ac_57) 19 (up1 (up1 (up1 (M 19) 3 1) 1 bt) 2 (difK (M 2) (keyZ (M 23) (M 2) 1) 512))) (ups_ups) ?_
          refine ww_aload_n C dX3_consider_78 2 rfl ?_
          refine gt_X3_12 C dX3_consider_79 ?_
          refine ww_aload_n C dX3_consider_82 2 rfl ?_
          refine gt_X3_29 C dX3_consider_83 ?_
          refine ww_callVV C (As := [.ref (wa w 22)]) 20 (pl_lt (Or.inr (Or.inl rfl))) (ct_X1_takeNumbers_20 w (ups (ups M 24 ac_57) 19 (up1 (up1 (up1 (M 19) 3 1) 1 bt) 2 (difK (M 2) (keyZ (M 23) (M 2) 1) 512))) ) mf_X1_takeNumbers ml_X3_65 (pl_cell (Or.inr (Or.inl rfl)) _) rfl (by decide) rfl rfl (Nat.le_of_ble_eq_true rfl) dX3_consider_86 (fun M_86 hp_86 => ?_)
          rw [hp_86]
          refine ww_mem (M1 := ups (ups (ups M 24 ac_57) 19 (up1 (up1 (up1 (M 19) 3 1) 1 bt) 2 (difK (M 2) (keyZ (M 23) (M 2) 1) 512))) 21 (fun j => if j < 9 then (M 23) j else (M 21) j)) rfl ?_
          exact RT _ _ _ dX3_consider_89 (by first | exact ⟨ac_57, hac_57, Or.inl ⟨⟨n5.mp (by omega), hpa_57.mp (by omega), by omega⟩, rfl⟩⟩ | exact ⟨ac_15, hac_15, Or.inr ⟨fun h9 => by have e9 := h9.2.2; omega, rfl⟩⟩ | exact ⟨ac_57, hac_57, Or.inr ⟨fun h9 => by have e9 := hpa_57.mpr h9.2.1; omega, rfl⟩⟩)
    · refine ww_iload_n C dX3_consider_26 3 rfl ?_
      refine ww_aload_n C dX3_consider_27 1 rfl ?_
      refine gt_X3_18 C dX3_consider_28 ?_
      refine ww_top (b := M 19 1) rfl ?_
      refine ww_icmp_lt C 42 dX3_consider_31 (by decide) (hbt) (hr1) (fun c_31 => ?_) (fun c_31 => ?_)
      · refine ww_iconst C dX3_consider_42 ?_
        refine ww_goto C 47 dX3_consider_43 (by decide) ?_
        refine ww_istore C dX3_consider_47 (lv' := [(4, .int (iZ 1)), (3, .int (iZ (difK (M 2) (keyZ (M 23) (M 2) 1) 512))), (0, .ref (wa w 19)), (1, .ref (wa w 1)), (2, .int (iZ bt))]) (by rw [hkL]; decide) rfl ?_
        refine ww_iload C dX3_consider_49 0 rfl ?_
        refine ww_if_eq C 89 dX3_consider_51 (by decide) (by omega) (fun c_51 => ?_) (fun c_51 => ?_)
        · exact absurd c_51 (by decide)
        · refine ww_aload_n C dX3_consider_54 2 rfl ?_
          refine ww_aload_n C dX3_consider_55 3 rfl ?_
          refine ww_iload_n C dX3_consider_56 1 rfl ?_
          refine ww_callV C (As := [.ref (wa w 1), .int (iZ (difK (M 2) (keyZ (M 23) (M 2) 1) 512))]) 19 (by decide) (ct_X3_partsAll w (ups M 24 ac_15) np (difK (M 2) (keyZ (M 23) (M 2) 1) 512) (show SzOk ((M 2)) from hs) (show (M 1) 2 = (np : Int) from hnp) (show CdOk ((M 2)) ((M 3)) np from hcd) (show Nu2 ((M 23)) from h2) (show cellsOk ((M 23)) ((M 2)) from hck) (show ∀ d : Nat, -8 ≤ ac_15 d ∧ ac_15 d ≤ 8 from hac_15) (show (difK (M 2) (keyZ (M 23) (M 2) 1) 512) = difK ((M 2)) (keyZ ((M 23)) ((M 2)) 1) 512 from rfl)) mf_X3_partsAll ml_X3_61 rfl rfl (by decide) rfl rfl (Nat.le_of_ble_eq_true rfl) dX3_consider_57 (fun z_57 M_57 hp_57 => ?_)
          obtain ⟨hz_57, hpa_57, ac_57, hac_57, hm_57⟩ := hp_57
          have hpa_57 : z_57 = 1 ↔ ¬ metZ (M 23) (M 2) := hpa_57
          refine ww_mem (M1 := ups M 24 ac_57) (by rw [hm_57]; exact ups_ups) ?_
          refine ww_if_eq C 89 dX3_consider_60 (by decide) (by omega) (fun c_60 => ?_) (fun c_60 => ?_)
          · exact RT _ _ _ dX3_consider_89 (by first | exact ⟨ac_57, hac_57, Or.inl ⟨⟨n5.mp (by omega), hpa_57.mp (by omega), by omega⟩, rfl⟩⟩ | exact ⟨ac_15, hac_15, Or.inr ⟨fun h9 => by have e9 := h9.2.2; omega, rfl⟩⟩ | exact ⟨ac_57, hac_57, Or.inr ⟨fun h9 => by have e9 := hpa_57.mpr h9.2.1; omega, rfl⟩⟩)
          · refine ww_aload_n C dX3_consider_63 2 rfl ?_
            refine ww_iconst C dX3_consider_64 ?_
            refine pt_X3_25 C (by decide) dX3_consider_65 ?_
            refine ww_mem (M1 := ups (ups M 24 ac_57) 19 (up1 (M 19) 3 1)) rfl ?_
            refine ww_aload_n C dX3_consider_68 2 rfl ?_
            refine ww_iload_n C dX3_consider_69 4 rfl ?_
            refine pt_X3_18 C dX3_consider_70 ?_
            refine ww_mem (M1 := ups (ups M 24 ac_57) 19 (up1 (up1 (M 19) 3 1) 1 bt)) (ups_ups) ?_
            refine ww_aload_n C dX3_consider_73 2 rfl ?_
            refine ww_iload_n C dX3_consider_74 1 rfl ?_
            refine pt_X3_22 C dX3_consider_75 ?_
            refine ww_mem (M1 := ups (ups M 24 ac_57) 19 (up1 (up1 (up1 (M 19) 3 1) 1 bt) 2 (difK (M 2) (keyZ (M 23) (M 2) 1) 512))) (ups_ups) ?_
            refine ww_aload_n C dX3_consider_78 2 rfl ?_
            refine gt_X3_12 C dX3_consider_79 ?_
            refine ww_aload_n C dX3_consider_82 2 rfl ?_
            refine gt_X3_29 C dX3_consider_83 ?_
            refine ww_callVV C (As := [.ref (wa w 22)]) 20 (pl_lt (Or.inr (Or.inl rfl))) (ct_X1_takeNumbers_20 w (ups (ups M 24 ac_57) 19 (up1 (up1 (up1 (M 19) 3 1) 1 bt) 2 (difK (M 2) (keyZ (M 23) (M 2) 1) 512))) ) mf_X1_takeNumbers ml_X3_65 (pl_cell (Or.inr (Or.inl rfl)) _) rfl (by decide) rfl rfl (Nat.le_of_ble_eq_true rfl) dX3_consider_86 (fun M_86 hp_86 => ?_)
            rw [hp_86]
            refine ww_mem (M1 := ups (ups (ups M 24 ac_57) 19 (up1 (up1 (up1 (M 19) 3 1) 1 bt) 2 (difK (M 2) (keyZ (M 23) (M 2) 1) 512))) 21 (fun j => if j < 9 then (M 23) j else (M 21) j)) rfl ?_
            exact RT _ _ _ dX3_consider_89 (by first | exact ⟨ac_57, hac_57, Or.inl ⟨⟨n5.mp (by omega), hpa_57.mp (by omega), by omega⟩, rfl⟩⟩ | exact ⟨ac_15, hac_15, Or.inr ⟨fun h9 => by have e9 := h9.2.2; omega, rfl⟩⟩ | exact ⟨ac_57, hac_57, Or.inr ⟨fun h9 => by have e9 := hpa_57.mpr h9.2.1; omega, rfl⟩⟩)
      · refine ww_iload_n C dX3_consider_34 0 rfl ?_
        refine ww_aload_n C dX3_consider_35 1 rfl ?_
        refine gt_X3_22 C dX3_consider_36 ?_
        refine ww_top (b := M 19 2) rfl ?_
        refine ww_icmp_ge C 46 dX3_consider_39 (by decide) (by omega) (hr2) (fun c_39 => ?_) (fun c_39 => ?_)
        · refine ww_iconst C dX3_consider_46 ?_
          refine ww_istore C dX3_consider_47 (lv' := [(4, .int (iZ 0)), (3, .int (iZ (difK (M 2) (keyZ (M 23) (M 2) 1) 512))), (0, .ref (wa w 19)), (1, .ref (wa w 1)), (2, .int (iZ bt))]) (by rw [hkL]; decide) rfl ?_
          refine ww_iload C dX3_consider_49 0 rfl ?_
          refine ww_if_eq C 89 dX3_consider_51 (by decide) (by omega) (fun c_51 => ?_) (fun c_51 => ?_)
          · exact RT _ _ _ dX3_consider_89 (by first | exact ⟨ac_57, hac_57, Or.inl ⟨⟨n5.mp (by omega), hpa_57.mp (by omega), by omega⟩, rfl⟩⟩ | exact ⟨ac_15, hac_15, Or.inr ⟨fun h9 => by have e9 := h9.2.2; omega, rfl⟩⟩ | exact ⟨ac_57, hac_57, Or.inr ⟨fun h9 => by have e9 := hpa_57.mpr h9.2.1; omega, rfl⟩⟩)
          · exact absurd c_51 (by decide)
        · refine ww_iconst C dX3_consider_42 ?_
          refine ww_goto C 47 dX3_consider_43 (by decide) ?_
          refine ww_istore C dX3_consider_47 (lv' := [(4, .int (iZ 1)), (3, .int (iZ (difK (M 2) (keyZ (M 23) (M 2) 1) 512))), (0, .ref (wa w 19)), (1, .ref (wa w 1)), (2, .int (iZ bt))]) (by rw [hkL]; decide) rfl ?_
          refine ww_iload C dX3_consider_49 0 rfl ?_
          refine ww_if_eq C 89 dX3_consider_51 (by decide) (by omega) (fun c_51 => ?_) (fun c_51 => ?_)
          · exact absurd c_51 (by decide)
          · refine ww_aload_n C dX3_consider_54 2 rfl ?_
            refine ww_aload_n C dX3_consider_55 3 rfl ?_
            refine ww_iload_n C dX3_consider_56 1 rfl ?_
            refine ww_callV C (As := [.ref (wa w 1), .int (iZ (difK (M 2) (keyZ (M 23) (M 2) 1) 512))]) 19 (by decide) (ct_X3_partsAll w (ups M 24 ac_15) np (difK (M 2) (keyZ (M 23) (M 2) 1) 512) (show SzOk ((M 2)) from hs) (show (M 1) 2 = (np : Int) from hnp) (show CdOk ((M 2)) ((M 3)) np from hcd) (show Nu2 ((M 23)) from h2) (show cellsOk ((M 23)) ((M 2)) from hck) (show ∀ d : Nat, -8 ≤ ac_15 d ∧ ac_15 d ≤ 8 from hac_15) (show (difK (M 2) (keyZ (M 23) (M 2) 1) 512) = difK ((M 2)) (keyZ ((M 23)) ((M 2)) 1) 512 from rfl)) mf_X3_partsAll ml_X3_61 rfl rfl (by decide) rfl rfl (Nat.le_of_ble_eq_true rfl) dX3_consider_57 (fun z_57 M_57 hp_57 => ?_)
            obtain ⟨hz_57, hpa_57, ac_57, hac_57, hm_57⟩ := hp_57
            have hpa_57 : z_57 = 1 ↔ ¬ metZ (M 23) (M 2) := hpa_57
            refine ww_mem (M1 := ups M 24 ac_57) (by rw [hm_57]; exact ups_ups) ?_
            refine ww_if_eq C 89 dX3_consider_60 (by decide) (by omega) (fun c_60 => ?_) (fun c_60 => ?_)
            · exact RT _ _ _ dX3_consider_89 (by first | exact ⟨ac_57, hac_57, Or.inl ⟨⟨n5.mp (by omega), hpa_57.mp (by omega), by omega⟩, rfl⟩⟩ | exact ⟨ac_15, hac_15, Or.inr ⟨fun h9 => by have e9 := h9.2.2; omega, rfl⟩⟩ | exact ⟨ac_57, hac_57, Or.inr ⟨fun h9 => by have e9 := hpa_57.mpr h9.2.1; omega, rfl⟩⟩)
            · refine ww_aload_n C dX3_consider_63 2 rfl ?_
              refine ww_iconst C dX3_consider_64 ?_
              refine pt_X3_25 C (by decide) dX3_consider_65 ?_
              refine ww_mem (M1 := ups (ups M 24 ac_57) 19 (up1 (M 19) 3 1)) rfl ?_
              refine ww_aload_n C dX3_consider_68 2 rfl ?_
              refine ww_iload_n C dX3_consider_69 4 rfl ?_
              refine pt_X3_18 C dX3_consider_70 ?_
              refine ww_mem (M1 := ups (ups M 24 ac_57) 19 (up1 (up1 (M 19) 3 1) 1 bt)) (ups_ups) ?_
              refine ww_aload_n C dX3_consider_73 2 rfl ?_
              refine ww_iload_n C dX3_consider_74 1 rfl ?_
              refine pt_X3_22 C dX3_consider_75 ?_
              refine ww_mem (M1 := ups (ups M 24 ac_57) 19 (up1 (up1 (up1 (M 19) 3 1) 1 bt) 2 (difK (M 2) (keyZ (M 23) (M 2) 1) 512))) (ups_ups) ?_
              refine ww_aload_n C dX3_consider_78 2 rfl ?_
              refine gt_X3_12 C dX3_consider_79 ?_
              refine ww_aload_n C dX3_consider_82 2 rfl ?_
              refine gt_X3_29 C dX3_consider_83 ?_
              refine ww_callVV C (As := [.ref (wa w 22)]) 20 (pl_lt (Or.inr (Or.inl rfl))) (ct_X1_takeNumbers_20 w (ups (ups M 24 ac_57) 19 (up1 (up1 (up1 (M 19) 3 1) 1 bt) 2 (difK (M 2) (keyZ (M 23) (M 2) 1) 512))) ) mf_X1_takeNumbers ml_X3_65 (pl_cell (Or.inr (Or.inl rfl)) _) rfl (by decide) rfl rfl (Nat.le_of_ble_eq_true rfl) dX3_consider_86 (fun M_86 hp_86 => ?_)
              rw [hp_86]
              refine ww_mem (M1 := ups (ups (ups M 24 ac_57) 19 (up1 (up1 (up1 (M 19) 3 1) 1 bt) 2 (difK (M 2) (keyZ (M 23) (M 2) 1) 512))) 21 (fun j => if j < 9 then (M 23) j else (M 21) j)) rfl ?_
              exact RT _ _ _ dX3_consider_89 (by first | exact ⟨ac_57, hac_57, Or.inl ⟨⟨n5.mp (by omega), hpa_57.mp (by omega), by omega⟩, rfl⟩⟩ | exact ⟨ac_15, hac_15, Or.inr ⟨fun h9 => by have e9 := h9.2.2; omega, rfl⟩⟩ | exact ⟨ac_57, hac_57, Or.inr ⟨fun h9 => by have e9 := hpa_57.mpr h9.2.1; omega, rfl⟩⟩)
  · exact RT _ _ _ dX3_consider_12 (⟨M 24, ha, Or.inr ⟨fun h9 => by have e9 := n5.mpr h9.1; omega, ups_id.symm⟩⟩)
