set_option maxRecDepth 100000 in
set_option maxHeartbeats 4000000 in
theorem ct_X3_tryLines_1 (w : WLD) (M : Mem) (nv np b t : Nat) (hs : SzOk (M 2)) (hst : StOk (M 4)) (hnv : M 1 3 = (nv : Int)) (hn4 : nv ≤ 4) (hnp : M 1 2 = (np : Int)) (hcd : CdOk (M 2) (M 3) np) (hb12 : b = 1 ∨ b = 2) (htv : t < vc b) (h012 : M 23 0 = spA b t ∧ M 23 1 = spB b t ∧ M 23 2 = spC b t) (hear : ∀ v : Nat, v < nv → ¬ earP (M 23) (M 2) (M 4) v) (hss : SS M (M 2) (M 4) nv b 1 (ix b t 0 0)) (hle : M 19 3 = 1 → buZ (M 23) (M 2) ≤ M 19 1) : CtV w yX3_tryLines cX3_tryLines 11 rm_X3_tryLines [.ref (wa w 19), .ref (wa w 1), .int (iZ ((b : Nat) : Int)), .int (iZ 1), .int (iZ ((vc b : Nat) : Int))] M (fun M1 => SS M1 (M 2) (M 4) nv b 1 (ix b (t + 1) 0 0) ∧ frS M M1) := by
  refine CtV.of (by decide) (Nat.le_of_ble_eq_true rfl) rfl rfl ?_
  intro k hkL C RT
  have hvv := vc_v hb12
  have hbb := buZ_b (Nu2_3 hss.2.2.2.1) hs
  show WW w k 0 [(0, .ref (wa w 19)), (1, .ref (wa w 1)), (2, .int (iZ ((b : Nat) : Int))), (3, .int (iZ 1)), (4, .int (iZ ((vc b : Nat) : Int)))] [] M
  refine ww_iload C dX3_tryLines_0 4 rfl ?_
  refine ww_iconst C dX3_tryLines_2 ?_
  refine ww_idivN C dX3_tryLines_3 (by omega) (by omega) ?_
  refine ww_top (b := ((vc b / 2 : Nat) : Int)) (by omega) ?_
  refine ww_istore C dX3_tryLines_4 (lv' := [(5, .int (iZ ((vc b / 2 : Nat) : Int))), (0, .ref (wa w 19)), (1, .ref (wa w 1)), (2, .int (iZ ((b : Nat) : Int))), (3, .int (iZ 1)), (4, .int (iZ ((vc b : Nat) : Int)))]) (by rw [hkL]; decide) rfl ?_
  refine ww_iload_n C dX3_tryLines_6 4 rfl ?_
  refine ww_iconst C dX3_tryLines_7 ?_
  refine ww_icmp_ne C 16 dX3_tryLines_8 (by decide) (by omega) (by omega) (fun c_8 => ?_) (fun c_8 => ?_)
  · exact absurd c_8 (by decide)
  · refine ww_iload C dX3_tryLines_11 0 rfl ?_
    refine ww_goto C 17 dX3_tryLines_13 (by decide) ?_
    refine ww_istore C dX3_tryLines_17 (lv' := [(6, .int (iZ ((vc b / 2 : Nat) : Int))), (5, .int (iZ ((vc b / 2 : Nat) : Int))), (0, .ref (wa w 19)), (1, .ref (wa w 1)), (2, .int (iZ ((b : Nat) : Int))), (3, .int (iZ 1)), (4, .int (iZ ((vc b : Nat) : Int)))]) (by rw [hkL]; decide) rfl ?_
    refine ww_iload_n C dX3_tryLines_19 5 rfl ?_
    refine ww_iconst C dX3_tryLines_20 ?_
    refine ww_icmp_ne C 29 dX3_tryLines_21 (by decide) (by omega) (by omega) (fun c_21 => ?_) (fun c_21 => ?_)
    · exact absurd c_21 (by decide)
    · refine ww_iload C dX3_tryLines_24 1 rfl ?_
      refine ww_goto C 33 dX3_tryLines_26 (by decide) ?_
      refine ww_istore C dX3_tryLines_33 (lv' := [(7, .int (iZ ((vc b / 2 : Nat) : Int))), (6, .int (iZ ((vc b / 2 : Nat) : Int))), (5, .int (iZ ((vc b / 2 : Nat) : Int))), (0, .ref (wa w 19)), (1, .ref (wa w 1)), (2, .int (iZ ((b : Nat) : Int))), (3, .int (iZ 1)), (4, .int (iZ ((vc b : Nat) : Int)))]) (by rw [hkL]; decide) rfl ?_
      refine ww_aload_n C dX3_tryLines_35 3 rfl ?_
      refine gt_X3_29 C dX3_tryLines_36 ?_
      refine ww_aload_n C dX3_tryLines_39 4 rfl ?_
      refine ww_callV C (As := [.ref (wa w 1)]) 22 (pl_lt (Or.inr (Or.inr rfl))) (ct_X1_beatsUnfolded w M 22 (Or.inr (Or.inr rfl)) (Nu2_3 hss.2.2.2.1) (hs)) mf_X1_beatsUnfolded ml_X3_40 (pl_cell (Or.inr (Or.inr rfl)) _) rfl (by decide) rfl rfl (Nat.le_of_ble_eq_true rfl) dX3_tryLines_40 (fun z_40 M_40 hp_40 => ?_)
      rw [hp_40.1, hp_40.2]
      refine ww_top (b := buZ (M 23) (M 2)) (rfl) ?_
      refine ww_istore C dX3_tryLines_43 (lv' := [(8, .int (iZ (buZ (M 23) (M 2)))), (7, .int (iZ ((vc b / 2 : Nat) : Int))), (6, .int (iZ ((vc b / 2 : Nat) : Int))), (5, .int (iZ ((vc b / 2 : Nat) : Int))), (0, .ref (wa w 19)), (1, .ref (wa w 1)), (2, .int (iZ ((b : Nat) : Int))), (3, .int (iZ 1)), (4, .int (iZ ((vc b : Nat) : Int)))]) (by rw [hkL]; decide) rfl ?_
      refine ww_iconst C dX3_tryLines_45 ?_
      refine ww_istore C dX3_tryLines_46 (lv' := [(9, .int (iZ 0)), (8, .int (iZ (buZ (M 23) (M 2)))), (7, .int (iZ ((vc b / 2 : Nat) : Int))), (6, .int (iZ ((vc b / 2 : Nat) : Int))), (5, .int (iZ ((vc b / 2 : Nat) : Int))), (0, .ref (wa w 19)), (1, .ref (wa w 1)), (2, .int (iZ ((b : Nat) : Int))), (3, .int (iZ 1)), (4, .int (iZ ((vc b : Nat) : Int)))]) (by rw [hkL]; decide) rfl ?_
      have L_48 : ∀ (fuel : Nat) (s : Nat) (Mt : Mem) (hsv : s ≤ vc b) (hfr : frS M Mt) (hst9 : SS Mt (M 2) (M 4) nv b 1 (ix b t s 0)) (ht012 : Mt 23 0 = spA b t ∧ Mt 23 1 = spB b t ∧ Mt 23 2 = spC b t) (hle9 : (Mt 19 3 = 1 → buZ (M 23) (M 2) ≤ Mt 19 1)), vc b - s < fuel → WW w k 48 [(0, .ref (wa w 19)), (1, .ref (wa w 1)), (2, .int (iZ ((b : Nat) : Int))), (3, .int (iZ 1)), (4, .int (iZ ((vc b : Nat) : Int))), (5, .int (iZ ((vc b / 2 : Nat) : Int))), (6, .int (iZ ((vc b / 2 : Nat) : Int))), (7, .int (iZ ((vc b / 2 : Nat) : Int))), (8, .int (iZ (buZ (M 23) (M 2)))), (9, .int (iZ ((s : Nat) : Int)))] [] Mt := by
        intro fuel
        induction fuel with
        | zero => intro s Mt hsv hfr hst9 ht012 hle9 hf_48; exact absurd hf_48 (Nat.not_lt_zero _)
        | succ fuel ih_48 =>
          intro s Mt hsv hfr hst9 ht012 hle9 hf_48
          have r1 := hfr 1 (by decide) (by decide) (by decide) (by decide)
          have r2 := hfr 2 (by decide) (by decide) (by decide) (by decide)
          have r3 := hfr 3 (by decide) (by decide) (by decide) (by decide)
          have r4 := hfr 4 (by decide) (by decide) (by decide) (by decide)
          obtain ⟨hq1, hq21, hq23, hq2, hq24, hqr1, hqr2, hqF⟩ := id hst9
          refine ww_iload C dX3_tryLines_48 9 rfl ?_
          refine ww_iload C dX3_tryLines_50 4 rfl ?_
          refine ww_icmp_ge C 120 dX3_tryLines_52 (by decide) (by omega) (by omega) (fun c_52 => ?_) (fun c_52 => ?_)
          · exact RT _ _ _ dX3_tryLines_120 (⟨by rw [show s = vc b by omega] at hst9; have e9 : ix b t (vc b) 0 = ix b (t + 1) 0 0 := (by unfold ix; rcases hvv with e | e <;> rw [e] <;> omega); rw [e9] at hst9; exact hst9, hfr⟩)
          · refine ww_aload_n C dX3_tryLines_55 0 rfl ?_
            refine ww_iconst C dX3_tryLines_56 ?_
            refine ww_iload C dX3_tryLines_57 9 rfl ?_
            refine ww_iload_n C dX3_tryLines_59 2 rfl ?_
            refine ww_callVV C (As := [.int (iZ 1), .int (iZ ((s : Nat) : Int)), .int (iZ ((b : Nat) : Int))]) 19 (by decide) (ct_X3_spell w Mt 1 s b (by decide) (hb12) (by omega)) mf_X3_spell ml_X3_36 rfl rfl (by decide) rfl rfl (Nat.le_of_ble_eq_true rfl) dX3_tryLines_60 (fun M_60 hp_60 => ?_)
            rw [hp_60]
            refine ww_mem (M1 := ups Mt 23 (up1 (up1 (up1 (Mt 23) (3 * 1) (spA b s)) (3 * 1 + 1) (spB b s)) (3 * 1 + 2) (spC b s))) rfl ?_
            refine ww_mem (M1 := ups Mt 23 (up1 (up1 (up1 (Mt 23) 3 (spA b s)) 4 (spB b s)) 5 (spC b s))) (rfl) ?_
            refine ww_iload C dX3_tryLines_63 6 rfl ?_
            refine ww_istore C dX3_tryLines_65 (lv' := [(10, .int (iZ ((vc b / 2 : Nat) : Int))), (0, .ref (wa w 19)), (1, .ref (wa w 1)), (2, .int (iZ ((b : Nat) : Int))), (3, .int (iZ 1)), (4, .int (iZ ((vc b : Nat) : Int))), (5, .int (iZ ((vc b / 2 : Nat) : Int))), (6, .int (iZ ((vc b / 2 : Nat) : Int))), (7, .int (iZ ((vc b / 2 : Nat) : Int))), (8, .int (iZ (buZ (M 23) (M 2)))), (9, .int (iZ ((s : Nat) : Int)))]) (by rw [hkL]; decide) rfl ?_
            have L_67 : ∀ (fuel : Nat) (r : Nat) (Mt : Mem) (hrv : vc b / 2 ≤ r ∧ r ≤ vc b / 2 + 1) (hfr : frS M Mt) (hst8 : SS Mt (M 2) (M 4) nv b 1 (ix b t s r)) (ht012 : Mt 23 0 = spA b t ∧ Mt 23 1 = spB b t ∧ Mt 23 2 = spC b t) (ht345 : Mt 23 3 = spA b s ∧ Mt 23 4 = spB b s ∧ Mt 23 5 = spC b s) (hle9 : (Mt 19 3 = 1 → buZ (M 23) (M 2) ≤ Mt 19 1)), vc b + 1 - r < fuel → WW w k 67 [(0, .ref (wa w 19)), (1, .ref (wa w 1)), (2, .int (iZ ((b : Nat) : Int))), (3, .int (iZ 1)), (4, .int (iZ ((vc b : Nat) : Int))), (5, .int (iZ ((vc b / 2 : Nat) : Int))), (6, .int (iZ ((vc b / 2 : Nat) : Int))), (7, .int (iZ ((vc b / 2 : Nat) : Int))), (8, .int (iZ (buZ (M 23) (M 2)))), (9, .int (iZ ((s : Nat) : Int))), (10, .int (iZ ((r : Nat) : Int)))] [] Mt := by
              intro fuel
              induction fuel with
              | zero => intro r Mt hrv hfr hst8 ht012 ht345 hle9 hf_67; exact absurd hf_67 (Nat.not_lt_zero _)
              | succ fuel ih_67 =>
                intro r Mt hrv hfr hst8 ht012 ht345 hle9 hf_67
                have r1 := hfr 1 (by decide) (by decide) (by decide) (by decide)
                have r2 := hfr 2 (by decide) (by decide) (by decide) (by decide)
                have r3 := hfr 3 (by decide) (by decide) (by decide) (by decide)
                have r4 := hfr 4 (by decide) (by decide) (by decide) (by decide)
                obtain ⟨hq1, hq21, hq23, hq2, hq24, hqr1, hqr2, hqF⟩ := id hst8
                refine ww_iload C dX3_tryLines_67 10 rfl ?_
                refine ww_iload C dX3_tryLines_69 7 rfl ?_
                refine ww_icmp_gt C 114 dX3_tryLines_71 (by decide) (by omega) (by omega) (fun c_71 => ?_) (fun c_71 => ?_)
                · refine ww_iinc2 C dX3_tryLines_114 9 rfl (b := ((s + 1 : Nat) : Int)) (by omega) (lv' := [(9, .int (iZ ((s + 1 : Nat) : Int))), (0, .ref (wa w 19)), (1, .ref (wa w 1)), (2, .int (iZ ((b : Nat) : Int))), (3, .int (iZ 1)), (4, .int (iZ ((vc b : Nat) : Int))), (5, .int (iZ ((vc b / 2 : Nat) : Int))), (6, .int (iZ ((vc b / 2 : Nat) : Int))), (7, .int (iZ ((vc b / 2 : Nat) : Int))), (8, .int (iZ (buZ (M 23) (M 2)))), (10, .int (iZ ((r : Nat) : Int)))]) (by rw [hkL]; decide) rfl ?_
                  refine ww_goto C 48 dX3_tryLines_117 (by decide) ?_
                  refine ww_sub [1, 2, 3, 4, 5, 6, 7, 8, 9, 0] rfl ?_
                  exact ih_48 (s + 1) Mt (by omega) (hfr) (ss_close hst8 hb12 (by omega) (by omega) (by omega)) (ht012) (hle9) (by omega)
                · refine ww_iload C dX3_tryLines_74 9 rfl ?_
                  refine ww_iload C dX3_tryLines_76 5 rfl ?_
                  refine ww_icmp_eq C 114 dX3_tryLines_78 (by decide) (by omega) (by omega) (fun c_78 => ?_) (fun c_78 => ?_)
                  · refine ww_iinc2 C dX3_tryLines_114 9 rfl (b := ((s + 1 : Nat) : Int)) (by omega) (lv' := [(9, .int (iZ ((s + 1 : Nat) : Int))), (0, .ref (wa w 19)), (1, .ref (wa w 1)), (2, .int (iZ ((b : Nat) : Int))), (3, .int (iZ 1)), (4, .int (iZ ((vc b : Nat) : Int))), (5, .int (iZ ((vc b / 2 : Nat) : Int))), (6, .int (iZ ((vc b / 2 : Nat) : Int))), (7, .int (iZ ((vc b / 2 : Nat) : Int))), (8, .int (iZ (buZ (M 23) (M 2)))), (10, .int (iZ ((r : Nat) : Int)))]) (by rw [hkL]; decide) rfl ?_
                    refine ww_goto C 48 dX3_tryLines_117 (by decide) ?_
                    refine ww_sub [1, 2, 3, 4, 5, 6, 7, 8, 9, 0] rfl ?_
                    exact ih_48 (s + 1) Mt (by omega) (hfr) (ss_close hst8 hb12 (by omega) (by omega) (by omega)) (ht012) (hle9) (by omega)
                  · refine ww_iload_n C dX3_tryLines_81 3 rfl ?_
                    refine ww_iconst C dX3_tryLines_82 ?_
                    refine ww_icmp_eq C 93 dX3_tryLines_83 (by decide) (by omega) (by omega) (fun c_83 => ?_) (fun c_83 => ?_)
                    · refine ww_aload_n C dX3_tryLines_93 0 rfl ?_
                      refine ww_iconst C dX3_tryLines_94 ?_
                      refine ww_iload C dX3_tryLines_95 10 rfl ?_
                      refine ww_iload_n C dX3_tryLines_97 2 rfl ?_
                      refine ww_callVV C (As := [.int (iZ 2), .int (iZ ((r : Nat) : Int)), .int (iZ ((b : Nat) : Int))]) 19 (by decide) (ct_X3_spell w Mt 2 r b (by decide) (hb12) (by omega)) mf_X3_spell ml_X3_36 rfl rfl (by decide) rfl rfl (Nat.le_of_ble_eq_true rfl) dX3_tryLines_98 (fun M_98 hp_98 => ?_)
                      rw [hp_98]
                      refine ww_mem (M1 := ups Mt 23 (up1 (up1 (up1 (Mt 23) (3 * 2) (spA b r)) (3 * 2 + 1) (spB b r)) (3 * 2 + 2) (spC b r))) rfl ?_
                      refine ww_mem (M1 := ups Mt 23 (up1 (up1 (up1 (Mt 23) 6 (spA b r)) 7 (spB b r)) 8 (spC b r))) (rfl) ?_
                      refine ww_aload_n C dX3_tryLines_101 0 rfl ?_
                      refine ww_aload_n C dX3_tryLines_102 1 rfl ?_
                      refine ww_iload C dX3_tryLines_103 8 rfl ?_
                      refine ww_callVV C (As := [.ref (wa w 1), .int (iZ (buZ (M 23) (M 2)))]) 19 (by decide) (ct_X3_consider w (ups Mt 23 (up1 (up1 (up1 (Mt 23) 6 (spA b r)) 7 (spB b r)) 8 (spC b r))) nv np (buZ (M 23) (M 2)) (show SzOk ((Mt 2)) from by rw [r2]; exact hs) (show StOk ((Mt 4)) from by rw [r4]; exact hst) (show (Mt 1) 3 = (nv : Int) from by rw [r1]; exact hnv) (show nv ≤ 4 from hn4) (show (Mt 1) 2 = (np : Int) from by rw [r1]; exact hnp) (show CdOk ((Mt 2)) ((Mt 3)) np from by rw [r2, r3]; exact hcd) (show Nu2 ((up1 (up1 (up1 (Mt 23) 6 (spA b r)) 7 (spB b r)) 8 (spC b r))) from nu2_up (q := 2) hb12 (by omega) hq2) (show (up1 (up1 (up1 (Mt 23) 6 (spA b r)) 7 (spB b r)) 8 (spC b r)) 3 ≠ 0 ∨ (up1 (up1 (up1 (Mt 23) 6 (spA b r)) 7 (spB b r)) 8 (spC b r)) 4 ≠ 0 ∨ (up1 (up1 (up1 (Mt 23) 6 (spA b r)) 7 (spB b r)) 8 (spC b r)) 5 ≠ 0 from by show Mt 23 3 ≠ 0 ∨ Mt 23 4 ≠ 0 ∨ Mt 23 5 ≠ 0; rw [ht345.1, ht345.2.1, ht345.2.2]; exact sp_ne hb12 (by omega) (by omega)) (show ∀ d : Nat, -8 ≤ (Mt 24) d ∧ (Mt 24) d ≤ 8 from hq24) (show R32 ((Mt 19) 1) from hqr1) (show R32 ((Mt 19) 2) from hqr2) (show (Mt 19) 3 = 0 ∨ (Mt 19) 3 = 1 from hqF) (show R32 (buZ (M 23) (M 2)) from by omega)) mf_X3_consider ml_X3_51 rfl rfl (by decide) rfl rfl (Nat.le_of_ble_eq_true rfl) dX3_tryLines_105 (fun M_105 hp_105 => ?_)
                      have hq9 := tl_step hs hfr hst8 ht012 ht345 h012 hle9 hb12 htv (by omega) (by omega) (by omega) (by omega) (by omega) hear hp_105
                      refine ww_iinc2 C dX3_tryLines_108 10 rfl (b := ((r + 1 : Nat) : Int)) (by omega) (lv' := [(10, .int (iZ ((r + 1 : Nat) : Int))), (0, .ref (wa w 19)), (1, .ref (wa w 1)), (2, .int (iZ ((b : Nat) : Int))), (3, .int (iZ 1)), (4, .int (iZ ((vc b : Nat) : Int))), (5, .int (iZ ((vc b / 2 : Nat) : Int))), (6, .int (iZ ((vc b / 2 : Nat) : Int))), (7, .int (iZ ((vc b / 2 : Nat) : Int))), (8, .int (iZ (buZ (M 23) (M 2)))), (9, .int (iZ ((s : Nat) : Int)))]) (by rw [hkL]; decide) rfl ?_
                      refine ww_goto C 67 dX3_tryLines_111 (by decide) ?_
                      refine ww_sub [1, 2, 3, 4, 5, 6, 7, 8, 9, 10, 0] rfl ?_
                      exact ih_67 (r + 1) M_105 (by omega) (hq9.1) (hq9.2.1) (hq9.2.2.1) (hq9.2.2.2.1) (hq9.2.2.2.2) (by omega)
                    · exact absurd c_83 (by decide)
            refine ww_sub [1, 2, 3, 4, 5, 6, 7, 8, 9, 10, 0] rfl ?_
            exact L_67 _ (vc b / 2) (ups Mt 23 (up1 (up1 (up1 (Mt 23) 3 (spA b s)) 4 (spB b s)) 5 (spC b s))) (by omega) (fr_23 hfr) (ss_open (ss_23 hst9 (z9_up (q := 1) (by omega) hq23) (nu2_up (q := 1) hb12 (by omega) hq2)) hb12 (by omega) (by omega) (by omega)) (ht012) (⟨rfl, rfl, rfl⟩) (hle9) (Nat.lt_succ_self _)
      refine ww_sub [5, 6, 7, 8, 9, 4, 3, 2, 1, 0] rfl ?_
      exact L_48 _ 0 M (by omega) (frS_rf M) (hss) (h012) (hle) (Nat.lt_succ_self _)
set_option maxRecDepth 100000 in
set_option maxHeartbeats 4000000 in
theorem ct_X3_tryLines_2 (w : WLD) (M : Mem) (nv np b t : Nat) (hs : SzOk (M 2)) (hst : StOk (M 4)) (hnv : M 1 3 = (nv : Int)) (hn4 : nv ≤ 4) (hnp : M 1 2 = (np : Int)) (hcd : CdOk (M 2) (M 3) np) (hb12 : b = 1 ∨ b = 2) (htv : t < vc b) (h012 : M 23 0 = spA b t ∧ M 23 1 = spB b t ∧ M 23 2 = spC b t) (hear : ∀ v : Nat, v < nv → ¬ earP (M 23) (M 2) (M 4) v) (hss : SS M (M 2) (M 4) nv b 2 (ix b t 0 0)) (hle : M 19 3 = 1 → buZ (M 23) (M 2) ≤ M 19 1) : CtV w yX3_tryLines cX3_tryLines 11 rm_X3_tryLines [.ref (wa w 19), .ref (wa w 1), .int (iZ ((b : Nat) : Int)), .int (iZ 2), .int (iZ ((vc b : Nat) : Int))] M (fun M1 => SS M1 (M 2) (M 4) nv b 2 (ix b (t + 1) 0 0) ∧ frS M M1) := by
  refine CtV.of (by decide) (Nat.le_of_ble_eq_true rfl) rfl rfl ?_
  intro k hkL C RT
  have hvv := vc_v hb12
  have hbb := buZ_b (Nu2_3 hss.2.2.2.1) hs
  show WW w k 0 [(0, .ref (wa w 19)), (1, .ref (wa w 1)), (2, .int (iZ ((b : Nat) : Int))), (3, .int (iZ 2)), (4, .int (iZ ((vc b : Nat) : Int)))] [] M
  refine ww_iload C dX3_tryLines_0 4 rfl ?_
  refine ww_iconst C dX3_tryLines_2 ?_
  refine ww_idivN C dX3_tryLines_3 (by omega) (by omega) ?_
  refine ww_top (b := ((vc b / 2 : Nat) : Int)) (by omega) ?_
  refine ww_istore C dX3_tryLines_4 (lv' := [(5, .int (iZ ((vc b / 2 : Nat) : Int))), (0, .ref (wa w 19)), (1, .ref (wa w 1)), (2, .int (iZ ((b : Nat) : Int))), (3, .int (iZ 2)), (4, .int (iZ ((vc b : Nat) : Int)))]) (by rw [hkL]; decide) rfl ?_
  refine ww_iload_n C dX3_tryLines_6 4 rfl ?_
  refine ww_iconst C dX3_tryLines_7 ?_
  refine ww_icmp_ne C 16 dX3_tryLines_8 (by decide) (by omega) (by omega) (fun c_8 => ?_) (fun c_8 => ?_)
  · refine ww_iconst C dX3_tryLines_16 ?_
    refine ww_istore C dX3_tryLines_17 (lv' := [(6, .int (iZ 0)), (5, .int (iZ ((vc b / 2 : Nat) : Int))), (0, .ref (wa w 19)), (1, .ref (wa w 1)), (2, .int (iZ ((b : Nat) : Int))), (3, .int (iZ 2)), (4, .int (iZ ((vc b : Nat) : Int)))]) (by rw [hkL]; decide) rfl ?_
    refine ww_iload_n C dX3_tryLines_19 5 rfl ?_
    refine ww_iconst C dX3_tryLines_20 ?_
    refine ww_icmp_ne C 29 dX3_tryLines_21 (by decide) (by omega) (by omega) (fun c_21 => ?_) (fun c_21 => ?_)
    · refine ww_iload C dX3_tryLines_29 6 rfl ?_
      refine ww_iconst C dX3_tryLines_31 ?_
      refine ww_isub C dX3_tryLines_32 ?_
      refine ww_top (b := ((vc b - 1 : Nat) : Int)) (by omega) ?_
      refine ww_istore C dX3_tryLines_33 (lv' := [(7, .int (iZ ((vc b - 1 : Nat) : Int))), (6, .int (iZ 0)), (5, .int (iZ ((vc b / 2 : Nat) : Int))), (0, .ref (wa w 19)), (1, .ref (wa w 1)), (2, .int (iZ ((b : Nat) : Int))), (3, .int (iZ 2)), (4, .int (iZ ((vc b : Nat) : Int)))]) (by rw [hkL]; decide) rfl ?_
      refine ww_aload_n C dX3_tryLines_35 3 rfl ?_
      refine gt_X3_29 C dX3_tryLines_36 ?_
      refine ww_aload_n C dX3_tryLines_39 4 rfl ?_
      refine ww_callV C (As := [.ref (wa w 1)]) 22 (pl_lt (Or.inr (Or.inr rfl))) (ct_X1_beatsUnfolded w M 22 (Or.inr (Or.inr rfl)) (Nu2_3 hss.2.2.2.1) (hs)) mf_X1_beatsUnfolded ml_X3_40 (pl_cell (Or.inr (Or.inr rfl)) _) rfl (by decide) rfl rfl (Nat.le_of_ble_eq_true rfl) dX3_tryLines_40 (fun z_40 M_40 hp_40 => ?_)
      rw [hp_40.1, hp_40.2]
      refine ww_top (b := buZ (M 23) (M 2)) (rfl) ?_
      refine ww_istore C dX3_tryLines_43 (lv' := [(8, .int (iZ (buZ (M 23) (M 2)))), (7, .int (iZ ((vc b - 1 : Nat) : Int))), (6, .int (iZ 0)), (5, .int (iZ ((vc b / 2 : Nat) : Int))), (0, .ref (wa w 19)), (1, .ref (wa w 1)), (2, .int (iZ ((b : Nat) : Int))), (3, .int (iZ 2)), (4, .int (iZ ((vc b : Nat) : Int)))]) (by rw [hkL]; decide) rfl ?_
      refine ww_iconst C dX3_tryLines_45 ?_
      refine ww_istore C dX3_tryLines_46 (lv' := [(9, .int (iZ 0)), (8, .int (iZ (buZ (M 23) (M 2)))), (7, .int (iZ ((vc b - 1 : Nat) : Int))), (6, .int (iZ 0)), (5, .int (iZ ((vc b / 2 : Nat) : Int))), (0, .ref (wa w 19)), (1, .ref (wa w 1)), (2, .int (iZ ((b : Nat) : Int))), (3, .int (iZ 2)), (4, .int (iZ ((vc b : Nat) : Int)))]) (by rw [hkL]; decide) rfl ?_
      have L_48 : ∀ (fuel : Nat) (s : Nat) (Mt : Mem) (hsv : s ≤ vc b) (hfr : frS M Mt) (hst9 : SS Mt (M 2) (M 4) nv b 2 (ix b t s 0)) (ht012 : Mt 23 0 = spA b t ∧ Mt 23 1 = spB b t ∧ Mt 23 2 = spC b t) (hle9 : (Mt 19 3 = 1 → buZ (M 23) (M 2) ≤ Mt 19 1)), vc b - s < fuel → WW w k 48 [(0, .ref (wa w 19)), (1, .ref (wa w 1)), (2, .int (iZ ((b : Nat) : Int))), (3, .int (iZ 2)), (4, .int (iZ ((vc b : Nat) : Int))), (5, .int (iZ ((vc b / 2 : Nat) : Int))), (6, .int (iZ 0)), (7, .int (iZ ((vc b - 1 : Nat) : Int))), (8, .int (iZ (buZ (M 23) (M 2)))), (9, .int (iZ ((s : Nat) : Int)))] [] Mt := by
        intro fuel
        induction fuel with
        | zero => intro s Mt hsv hfr hst9 ht012 hle9 hf_48; exact absurd hf_48 (Nat.not_lt_zero _)
        | succ fuel ih_48 =>
          intro s Mt hsv hfr hst9 ht012 hle9 hf_48
          have r1 := hfr 1 (by decide) (by decide) (by decide) (by decide)
          have r2 := hfr 2 (by decide) (by decide) (by decide) (by decide)
          have r3 := hfr 3 (by decide) (by decide) (by decide) (by decide)
          have r4 := hfr 4 (by decide) (by decide) (by decide) (by decide)
          obtain ⟨hq1, hq21, hq23, hq2, hq24, hqr1, hqr2, hqF⟩ := id hst9
          refine ww_iload C dX3_tryLines_48 9 rfl ?_
          refine ww_iload C dX3_tryLines_50 4 rfl ?_
          refine ww_icmp_ge C 120 dX3_tryLines_52 (by decide) (by omega) (by omega) (fun c_52 => ?_) (fun c_52 => ?_)
          · exact RT _ _ _ dX3_tryLines_120 (⟨by rw [show s = vc b by omega] at hst9; have e9 : ix b t (vc b) 0 = ix b (t + 1) 0 0 := (by unfold ix; rcases hvv with e | e <;> rw [e] <;> omega); rw [e9] at hst9; exact hst9, hfr⟩)
          · refine ww_aload_n C dX3_tryLines_55 0 rfl ?_
            refine ww_iconst C dX3_tryLines_56 ?_
            refine ww_iload C dX3_tryLines_57 9 rfl ?_
            refine ww_iload_n C dX3_tryLines_59 2 rfl ?_
            refine ww_callVV C (As := [.int (iZ 1), .int (iZ ((s : Nat) : Int)), .int (iZ ((b : Nat) : Int))]) 19 (by decide) (ct_X3_spell w Mt 1 s b (by decide) (hb12) (by omega)) mf_X3_spell ml_X3_36 rfl rfl (by decide) rfl rfl (Nat.le_of_ble_eq_true rfl) dX3_tryLines_60 (fun M_60 hp_60 => ?_)
            rw [hp_60]
            refine ww_mem (M1 := ups Mt 23 (up1 (up1 (up1 (Mt 23) (3 * 1) (spA b s)) (3 * 1 + 1) (spB b s)) (3 * 1 + 2) (spC b s))) rfl ?_
            refine ww_mem (M1 := ups Mt 23 (up1 (up1 (up1 (Mt 23) 3 (spA b s)) 4 (spB b s)) 5 (spC b s))) (rfl) ?_
            refine ww_iload C dX3_tryLines_63 6 rfl ?_
            refine ww_istore C dX3_tryLines_65 (lv' := [(10, .int (iZ 0)), (0, .ref (wa w 19)), (1, .ref (wa w 1)), (2, .int (iZ ((b : Nat) : Int))), (3, .int (iZ 2)), (4, .int (iZ ((vc b : Nat) : Int))), (5, .int (iZ ((vc b / 2 : Nat) : Int))), (6, .int (iZ 0)), (7, .int (iZ ((vc b - 1 : Nat) : Int))), (8, .int (iZ (buZ (M 23) (M 2)))), (9, .int (iZ ((s : Nat) : Int)))]) (by rw [hkL]; decide) rfl ?_
            have L_67 : ∀ (fuel : Nat) (r : Nat) (Mt : Mem) (hrv : 0 ≤ r ∧ r ≤ vc b - 1 + 1) (hfr : frS M Mt) (hst8 : SS Mt (M 2) (M 4) nv b 2 (ix b t s r)) (ht012 : Mt 23 0 = spA b t ∧ Mt 23 1 = spB b t ∧ Mt 23 2 = spC b t) (ht345 : Mt 23 3 = spA b s ∧ Mt 23 4 = spB b s ∧ Mt 23 5 = spC b s) (hle9 : (Mt 19 3 = 1 → buZ (M 23) (M 2) ≤ Mt 19 1)), vc b + 1 - r < fuel → WW w k 67 [(0, .ref (wa w 19)), (1, .ref (wa w 1)), (2, .int (iZ ((b : Nat) : Int))), (3, .int (iZ 2)), (4, .int (iZ ((vc b : Nat) : Int))), (5, .int (iZ ((vc b / 2 : Nat) : Int))), (6, .int (iZ 0)), (7, .int (iZ ((vc b - 1 : Nat) : Int))), (8, .int (iZ (buZ (M 23) (M 2)))), (9, .int (iZ ((s : Nat) : Int))), (10, .int (iZ ((r : Nat) : Int)))] [] Mt := by
              intro fuel
              induction fuel with
              | zero => intro r Mt hrv hfr hst8 ht012 ht345 hle9 hf_67; exact absurd hf_67 (Nat.not_lt_zero _)
              | succ fuel ih_67 =>
                intro r Mt hrv hfr hst8 ht012 ht345 hle9 hf_67
                have r1 := hfr 1 (by decide) (by decide) (by decide) (by decide)
                have r2 := hfr 2 (by decide) (by decide) (by decide) (by decide)
                have r3 := hfr 3 (by decide) (by decide) (by decide) (by decide)
                have r4 := hfr 4 (by decide) (by decide) (by decide) (by decide)
                obtain ⟨hq1, hq21, hq23, hq2, hq24, hqr1, hqr2, hqF⟩ := id hst8
                refine ww_iload C dX3_tryLines_67 10 rfl ?_
                refine ww_iload C dX3_tryLines_69 7 rfl ?_
                refine ww_icmp_gt C 114 dX3_tryLines_71 (by decide) (by omega) (by omega) (fun c_71 => ?_) (fun c_71 => ?_)
                · refine ww_iinc2 C dX3_tryLines_114 9 rfl (b := ((s + 1 : Nat) : Int)) (by omega) (lv' := [(9, .int (iZ ((s + 1 : Nat) : Int))), (0, .ref (wa w 19)), (1, .ref (wa w 1)), (2, .int (iZ ((b : Nat) : Int))), (3, .int (iZ 2)), (4, .int (iZ ((vc b : Nat) : Int))), (5, .int (iZ ((vc b / 2 : Nat) : Int))), (6, .int (iZ 0)), (7, .int (iZ ((vc b - 1 : Nat) : Int))), (8, .int (iZ (buZ (M 23) (M 2)))), (10, .int (iZ ((r : Nat) : Int)))]) (by rw [hkL]; decide) rfl ?_
                  refine ww_goto C 48 dX3_tryLines_117 (by decide) ?_
                  refine ww_sub [1, 2, 3, 4, 5, 6, 7, 8, 9, 0] rfl ?_
                  exact ih_48 (s + 1) Mt (by omega) (hfr) (ss_close hst8 hb12 (by omega) (by omega) (by omega)) (ht012) (hle9) (by omega)
                · refine ww_iload C dX3_tryLines_74 9 rfl ?_
                  refine ww_iload C dX3_tryLines_76 5 rfl ?_
                  refine ww_icmp_eq C 114 dX3_tryLines_78 (by decide) (by omega) (by omega) (fun c_78 => ?_) (fun c_78 => ?_)
                  · refine ww_iinc2 C dX3_tryLines_114 9 rfl (b := ((s + 1 : Nat) : Int)) (by omega) (lv' := [(9, .int (iZ ((s + 1 : Nat) : Int))), (0, .ref (wa w 19)), (1, .ref (wa w 1)), (2, .int (iZ ((b : Nat) : Int))), (3, .int (iZ 2)), (4, .int (iZ ((vc b : Nat) : Int))), (5, .int (iZ ((vc b / 2 : Nat) : Int))), (6, .int (iZ 0)), (7, .int (iZ ((vc b - 1 : Nat) : Int))), (8, .int (iZ (buZ (M 23) (M 2)))), (10, .int (iZ ((r : Nat) : Int)))]) (by rw [hkL]; decide) rfl ?_
                    refine ww_goto C 48 dX3_tryLines_117 (by decide) ?_
                    refine ww_sub [1, 2, 3, 4, 5, 6, 7, 8, 9, 0] rfl ?_
                    exact ih_48 (s + 1) Mt (by omega) (hfr) (ss_close hst8 hb12 (by omega) (by omega) (by omega)) (ht012) (hle9) (by omega)
                  · refine ww_iload_n C dX3_tryLines_81 3 rfl ?_
                    refine ww_iconst C dX3_tryLines_82 ?_
                    refine ww_icmp_eq C 93 dX3_tryLines_83 (by decide) (by omega) (by omega) (fun c_83 => ?_) (fun c_83 => ?_)
                    · exact absurd c_83 (by decide)
                    · refine ww_iload C dX3_tryLines_86 10 rfl ?_
                      refine ww_iload C dX3_tryLines_88 5 rfl ?_
                      refine ww_icmp_eq C 108 dX3_tryLines_90 (by decide) (by omega) (by omega) (fun c_90 => ?_) (fun c_90 => ?_)
                      · refine ww_iinc2 C dX3_tryLines_108 10 rfl (b := ((r + 1 : Nat) : Int)) (by omega) (lv' := [(10, .int (iZ ((r + 1 : Nat) : Int))), (0, .ref (wa w 19)), (1, .ref (wa w 1)), (2, .int (iZ ((b : Nat) : Int))), (3, .int (iZ 2)), (4, .int (iZ ((vc b : Nat) : Int))), (5, .int (iZ ((vc b / 2 : Nat) : Int))), (6, .int (iZ 0)), (7, .int (iZ ((vc b - 1 : Nat) : Int))), (8, .int (iZ (buZ (M 23) (M 2)))), (9, .int (iZ ((s : Nat) : Int)))]) (by rw [hkL]; decide) rfl ?_
                        refine ww_goto C 67 dX3_tryLines_111 (by decide) ?_
                        refine ww_sub [1, 2, 3, 4, 5, 6, 7, 8, 9, 10, 0] rfl ?_
                        exact ih_67 (r + 1) Mt (by omega) (hfr) (ss_no hst8 (by unfold ix; omega) (fun d d1 d2 ac => ac.2.2.1 rfl (by have g := ix_in hb12 (by omega) d1 (Nat.lt_of_lt_of_le d2 (ix_le hb12 (by omega))); have g2 : d = ix b t s r := (by unfold ix at d1 d2 ⊢; omega); rw [g2, (ix_d hb12 (by omega) (by omega)).2.2]; omega))) (ht012) (ht345) (hle9) (by omega)
                      · refine ww_aload_n C dX3_tryLines_93 0 rfl ?_
                        refine ww_iconst C dX3_tryLines_94 ?_
                        refine ww_iload C dX3_tryLines_95 10 rfl ?_
                        refine ww_iload_n C dX3_tryLines_97 2 rfl ?_
                        refine ww_callVV C (As := [.int (iZ 2), .int (iZ ((r : Nat) : Int)), .int (iZ ((b : Nat) : Int))]) 19 (by decide) (ct_X3_spell w Mt 2 r b (by decide) (hb12) (by omega)) mf_X3_spell ml_X3_36 rfl rfl (by decide) rfl rfl (Nat.le_of_ble_eq_true rfl) dX3_tryLines_98 (fun M_98 hp_98 => ?_)
                        rw [hp_98]
                        refine ww_mem (M1 := ups Mt 23 (up1 (up1 (up1 (Mt 23) (3 * 2) (spA b r)) (3 * 2 + 1) (spB b r)) (3 * 2 + 2) (spC b r))) rfl ?_
                        refine ww_mem (M1 := ups Mt 23 (up1 (up1 (up1 (Mt 23) 6 (spA b r)) 7 (spB b r)) 8 (spC b r))) (rfl) ?_
                        refine ww_aload_n C dX3_tryLines_101 0 rfl ?_
                        refine ww_aload_n C dX3_tryLines_102 1 rfl ?_
                        refine ww_iload C dX3_tryLines_103 8 rfl ?_
                        refine ww_callVV C (As := [.ref (wa w 1), .int (iZ (buZ (M 23) (M 2)))]) 19 (by decide) (ct_X3_consider w (ups Mt 23 (up1 (up1 (up1 (Mt 23) 6 (spA b r)) 7 (spB b r)) 8 (spC b r))) nv np (buZ (M 23) (M 2)) (show SzOk ((Mt 2)) from by rw [r2]; exact hs) (show StOk ((Mt 4)) from by rw [r4]; exact hst) (show (Mt 1) 3 = (nv : Int) from by rw [r1]; exact hnv) (show nv ≤ 4 from hn4) (show (Mt 1) 2 = (np : Int) from by rw [r1]; exact hnp) (show CdOk ((Mt 2)) ((Mt 3)) np from by rw [r2, r3]; exact hcd) (show Nu2 ((up1 (up1 (up1 (Mt 23) 6 (spA b r)) 7 (spB b r)) 8 (spC b r))) from nu2_up (q := 2) hb12 (by omega) hq2) (show (up1 (up1 (up1 (Mt 23) 6 (spA b r)) 7 (spB b r)) 8 (spC b r)) 3 ≠ 0 ∨ (up1 (up1 (up1 (Mt 23) 6 (spA b r)) 7 (spB b r)) 8 (spC b r)) 4 ≠ 0 ∨ (up1 (up1 (up1 (Mt 23) 6 (spA b r)) 7 (spB b r)) 8 (spC b r)) 5 ≠ 0 from by show Mt 23 3 ≠ 0 ∨ Mt 23 4 ≠ 0 ∨ Mt 23 5 ≠ 0; rw [ht345.1, ht345.2.1, ht345.2.2]; exact sp_ne hb12 (by omega) (by omega)) (show ∀ d : Nat, -8 ≤ (Mt 24) d ∧ (Mt 24) d ≤ 8 from hq24) (show R32 ((Mt 19) 1) from hqr1) (show R32 ((Mt 19) 2) from hqr2) (show (Mt 19) 3 = 0 ∨ (Mt 19) 3 = 1 from hqF) (show R32 (buZ (M 23) (M 2)) from by omega)) mf_X3_consider ml_X3_51 rfl rfl (by decide) rfl rfl (Nat.le_of_ble_eq_true rfl) dX3_tryLines_105 (fun M_105 hp_105 => ?_)
                        have hq9 := tl_step hs hfr hst8 ht012 ht345 h012 hle9 hb12 htv (by omega) (by omega) (by omega) (by omega) (by omega) hear hp_105
                        refine ww_iinc2 C dX3_tryLines_108 10 rfl (b := ((r + 1 : Nat) : Int)) (by omega) (lv' := [(10, .int (iZ ((r + 1 : Nat) : Int))), (0, .ref (wa w 19)), (1, .ref (wa w 1)), (2, .int (iZ ((b : Nat) : Int))), (3, .int (iZ 2)), (4, .int (iZ ((vc b : Nat) : Int))), (5, .int (iZ ((vc b / 2 : Nat) : Int))), (6, .int (iZ 0)), (7, .int (iZ ((vc b - 1 : Nat) : Int))), (8, .int (iZ (buZ (M 23) (M 2)))), (9, .int (iZ ((s : Nat) : Int)))]) (by rw [hkL]; decide) rfl ?_
                        refine ww_goto C 67 dX3_tryLines_111 (by decide) ?_
                        refine ww_sub [1, 2, 3, 4, 5, 6, 7, 8, 9, 10, 0] rfl ?_
                        exact ih_67 (r + 1) M_105 (by omega) (hq9.1) (hq9.2.1) (hq9.2.2.1) (hq9.2.2.2.1) (hq9.2.2.2.2) (by omega)
            refine ww_sub [1, 2, 3, 4, 5, 6, 7, 8, 9, 10, 0] rfl ?_
            exact L_67 _ 0 (ups Mt 23 (up1 (up1 (up1 (Mt 23) 3 (spA b s)) 4 (spB b s)) 5 (spC b s))) (by omega) (fr_23 hfr) (ss_open (ss_23 hst9 (z9_up (q := 1) (by omega) hq23) (nu2_up (q := 1) hb12 (by omega) hq2)) hb12 (by omega) (by omega) (by omega)) (ht012) (⟨rfl, rfl, rfl⟩) (hle9) (Nat.lt_succ_self _)
      refine ww_sub [5, 6, 7, 8, 9, 4, 3, 2, 1, 0] rfl ?_
      exact L_48 _ 0 M (by omega) (frS_rf M) (hss) (h012) (hle) (Nat.lt_succ_self _)
    · exact absurd c_21 (by decide)
  · exact absurd c_8 (by decide)
