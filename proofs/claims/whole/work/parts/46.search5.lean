set_option maxRecDepth 100000 in
set_option maxHeartbeats 4000000 in
theorem ct_X3_find_1 (w : WLD) (M : Mem) (nv np b : Nat) (hs : SzOk (M 2)) (hst : StOk (M 4)) (hnv : M 1 3 = (nv : Int)) (hn4 : nv ≤ 4) (hnp : M 1 2 = (np : Int)) (hcd : CdOk (M 2) (M 3) np) (hb12 : b = 1 ∨ b = 2) (hsi : SInv M) : CtI w yX3_find cX3_find 8 (some .boolean) rm_X3_find [.ref (wa w 19), .ref (wa w 1), .int (iZ ((b : Nat) : Int)), .int (iZ 1)] M (fun z M1 => z = M1 19 3 ∧ SS M1 (M 2) (M 4) nv b 1 (ix b (vc b) 0 0) ∧ frS M M1) := by
  refine CtI.ofZ (by decide) (Nat.le_of_ble_eq_true rfl) rfl rfl (fun z M9 h9 => by rw [h9.1]; exact h9.2.1.2.2.2.2.2.2.2) ?_
  intro k hkL C RT
  have hvv := vc_v hb12
  show WW w k 0 [(0, .ref (wa w 19)), (1, .ref (wa w 1)), (2, .int (iZ ((b : Nat) : Int))), (3, .int (iZ 1))] [] M
  refine ww_aload_n C dX3_find_0 0 rfl ?_
  refine ww_iconst C dX3_find_1 ?_
  refine pt_X3_25 C (by decide) dX3_find_2 ?_
  refine ww_iconst C dX3_find_5 ?_
  refine ww_iload_n C dX3_find_6 2 rfl ?_
  refine ww_imul C dX3_find_7 ?_
  refine ww_iconst C dX3_find_8 ?_
  refine ww_iadd C dX3_find_9 ?_
  refine ww_top (b := ((2 * b + 1 : Nat) : Int)) (by omega) ?_
  refine ww_istore C dX3_find_10 (lv' := [(4, .int (iZ ((2 * b + 1 : Nat) : Int))), (0, .ref (wa w 19)), (1, .ref (wa w 1)), (2, .int (iZ ((b : Nat) : Int))), (3, .int (iZ 1))]) (by rw [hkL]; decide) rfl ?_
  refine ww_iload C dX3_find_12 0 rfl ?_
  refine ww_iload C dX3_find_14 0 rfl ?_
  refine ww_imul C dX3_find_16 ?_
  refine ww_top (b := (((2 * b + 1) * (2 * b + 1) : Nat) : Int)) (by rw [Int.natCast_mul]) ?_
  refine ww_iload C dX3_find_17 0 rfl ?_
  refine ww_imul C dX3_find_19 ?_
  refine ww_top (b := ((vc b : Nat) : Int)) (by rw [Int.natCast_mul ((2 * b + 1) * (2 * b + 1))]) ?_
  refine ww_istore C dX3_find_20 (lv' := [(5, .int (iZ ((vc b : Nat) : Int))), (4, .int (iZ ((2 * b + 1 : Nat) : Int))), (0, .ref (wa w 19)), (1, .ref (wa w 1)), (2, .int (iZ ((b : Nat) : Int))), (3, .int (iZ 1))]) (by rw [hkL]; decide) rfl ?_
  refine ww_iconst C dX3_find_22 ?_
  refine ww_istore C dX3_find_23 (lv' := [(6, .int (iZ 0)), (5, .int (iZ ((vc b : Nat) : Int))), (4, .int (iZ ((2 * b + 1 : Nat) : Int))), (0, .ref (wa w 19)), (1, .ref (wa w 1)), (2, .int (iZ ((b : Nat) : Int))), (3, .int (iZ 1))]) (by rw [hkL]; decide) rfl ?_
  have L_25 : ∀ (fuel : Nat) (t : Nat) (Mt : Mem) (ht : t ≤ vc b) (hfr : frS M Mt) (hss : SS Mt (M 2) (M 4) nv b 1 (ix b t 0 0)), vc b - t < fuel → WW w k 25 [(0, .ref (wa w 19)), (1, .ref (wa w 1)), (2, .int (iZ ((b : Nat) : Int))), (3, .int (iZ 1)), (5, .int (iZ ((vc b : Nat) : Int))), (6, .int (iZ ((t : Nat) : Int)))] [] Mt := by
    intro fuel
    induction fuel with
    | zero => intro t Mt ht hfr hss hf_25; exact absurd hf_25 (Nat.not_lt_zero _)
    | succ fuel ih_25 =>
      intro t Mt ht hfr hss hf_25
      have r1 := hfr 1 (by decide) (by decide) (by decide) (by decide)
      have r2 := hfr 2 (by decide) (by decide) (by decide) (by decide)
      have r3 := hfr 3 (by decide) (by decide) (by decide) (by decide)
      have r4 := hfr 4 (by decide) (by decide) (by decide) (by decide)
      obtain ⟨hq1, hq21, hq23, hq2, hq24, hqr1, hqr2, hqF⟩ := id hss
      refine ww_iload C dX3_find_25 5 rfl ?_
      refine ww_iload C dX3_find_27 4 rfl ?_
      refine ww_icmp_ge C 101 dX3_find_29 (by decide) (by omega) (by omega) (fun c_29 => ?_) (fun c_29 => ?_)
      · refine ww_aload_n C dX3_find_101 0 rfl ?_
        refine gt_X3_25 C dX3_find_102 ?_
        exact RT _ _ _ _ dX3_find_105 (⟨rfl, by rw [show t = vc b by omega] at hss; exact hss, hfr⟩)
      · refine ww_aload_n C dX3_find_32 0 rfl ?_
        refine ww_iconst C dX3_find_33 ?_
        refine ww_iload C dX3_find_34 5 rfl ?_
        refine ww_iload_n C dX3_find_36 2 rfl ?_
        refine ww_callVV C (As := [.int (iZ 0), .int (iZ ((t : Nat) : Int)), .int (iZ ((b : Nat) : Int))]) 19 (by decide) (ct_X3_spell w Mt 0 t b (by decide) (hb12) (by omega)) mf_X3_spell ml_X3_36 rfl rfl (by decide) rfl rfl (Nat.le_of_ble_eq_true rfl) dX3_find_37 (fun M_37 hp_37 => ?_)
        rw [hp_37]
        refine ww_mem (M1 := ups Mt 23 (up1 (up1 (up1 (Mt 23) (3 * 0) (spA b t)) (3 * 0 + 1) (spB b t)) (3 * 0 + 2) (spC b t))) rfl ?_
        refine ww_mem (M1 := ups Mt 23 (up1 (up1 (up1 (Mt 23) 0 (spA b t)) 1 (spB b t)) 2 (spC b t))) (rfl) ?_
        have hg2 : Nu2 (up1 (up1 (up1 (Mt 23) 0 (spA b t)) 1 (spB b t)) 2 (spC b t)) := nu2_up (q := 0) hb12 (by omega) hq2
        have hbz := buZ_b (Nu2_3 hg2) hs
        rw [← r2] at hbz
        refine ww_aload_n C dX3_find_40 0 rfl ?_
        refine gt_X3_25 C dX3_find_41 ?_
        refine ww_top (b := Mt 19 3) rfl ?_
        refine ww_if_eq C 66 dX3_find_44 (by decide) (by omega) (fun c_44 => ?_) (fun c_44 => ?_)
        · refine ww_iconst C dX3_find_66 ?_
          refine ww_istore C dX3_find_67 (lv' := [(7, .int (iZ 0)), (0, .ref (wa w 19)), (1, .ref (wa w 1)), (2, .int (iZ ((b : Nat) : Int))), (3, .int (iZ 1)), (5, .int (iZ ((vc b : Nat) : Int))), (6, .int (iZ ((t : Nat) : Int)))]) (by rw [hkL]; decide) rfl ?_
          refine ww_iload C dX3_find_69 0 rfl ?_
          refine ww_if_ne C 95 dX3_find_71 (by decide) (by omega) (fun c_71 => ?_) (fun c_71 => ?_)
          · exact absurd c_71 (by decide)
          · refine ww_aload_n C dX3_find_74 1 rfl ?_
            refine gt_X3_29 C dX3_find_75 ?_
            refine ww_aload_n C dX3_find_78 2 rfl ?_
            refine ww_callV C (As := [.ref (wa w 1)]) 22 (pl_lt (Or.inr (Or.inr rfl))) (ct_X1_tooEarly w (ups Mt 23 (up1 (up1 (up1 (Mt 23) 0 (spA b t)) 1 (spB b t)) 2 (spC b t))) 22 nv (show pl 22 from Or.inr (Or.inr rfl)) (show NuOk ((ups Mt 23 (up1 (up1 (up1 (Mt 23) 0 (spA b t)) 1 (spB b t)) 2 (spC b t))) (22 + 1)) from Nu2_3 hg2) (show (Mt 1) 3 = (nv : Int) from by rw [r1]; exact hnv) (show nv ≤ 4 from hn4) (show SzOk ((Mt 2)) from by rw [r2]; exact hs) (show StOk ((Mt 4)) from by rw [r4]; exact hst)) mf_X1_tooEarly ml_X3_44 (pl_cell (Or.inr (Or.inr rfl)) _) rfl (by decide) rfl rfl (Nat.le_of_ble_eq_true rfl) dX3_find_79 (fun z_79 M_79 hp_79 => ?_)
            obtain ⟨hf_79, hm_79⟩ := hp_79
            have hf_79 : isFst (earP (up1 (up1 (up1 (Mt 23) 0 (spA b t)) 1 (spB b t)) 2 (spC b t)) (Mt 2) (Mt 4)) nv z_79 := hf_79
            rw [r2, r4] at hf_79
            have r79 := isFst_R (by omega) hf_79
            refine ww_mem (M1 := ups Mt 23 (up1 (up1 (up1 (Mt 23) 0 (spA b t)) 1 (spB b t)) 2 (spC b t))) (hm_79) ?_
            refine ww_iconst C dX3_find_82 ?_
            refine ww_icmp_ne C 95 dX3_find_83 (by decide) (by omega) (by omega) (fun c_83 => ?_) (fun c_83 => ?_)
            · refine ww_iinc2 C dX3_find_95 6 rfl (b := ((t + 1 : Nat) : Int)) (by omega) (lv' := [(6, .int (iZ ((t + 1 : Nat) : Int))), (7, .int (iZ 0)), (0, .ref (wa w 19)), (1, .ref (wa w 1)), (2, .int (iZ ((b : Nat) : Int))), (3, .int (iZ 1)), (5, .int (iZ ((vc b : Nat) : Int)))]) (by rw [hkL]; decide) rfl ?_
              refine ww_goto C 25 dX3_find_98 (by decide) ?_
              refine ww_sub [2, 3, 4, 5, 6, 0] rfl ?_
              exact ih_25 (t + 1) (ups Mt 23 (up1 (up1 (up1 (Mt 23) 0 (spA b t)) 1 (spB b t)) 2 (spC b t))) (by omega) (fr_23 hfr) (fd_ear (g := up1 (up1 (up1 (Mt 23) 0 (spA b t)) 1 (spB b t)) 2 (spC b t)) (ss_23 hss (z9_up (q := 0) (by omega) hq23) (nu2_up (q := 0) hb12 (by omega) hq2)) hb12 ⟨rfl, rfl, rfl⟩ hf_79 c_83) (by omega)
            · refine ww_aload_n C dX3_find_86 1 rfl ?_
              refine ww_aload_n C dX3_find_87 2 rfl ?_
              refine ww_iload_n C dX3_find_88 3 rfl ?_
              refine ww_iload_n C dX3_find_89 4 rfl ?_
              refine ww_iload C dX3_find_90 5 rfl ?_
              refine ww_callVV C (As := [.ref (wa w 1), .int (iZ ((b : Nat) : Int)), .int (iZ 1), .int (iZ ((vc b : Nat) : Int))]) 19 (by decide) (ct_X3_tryLines_1 w (ups Mt 23 (up1 (up1 (up1 (Mt 23) 0 (spA b t)) 1 (spB b t)) 2 (spC b t))) nv np b t (show SzOk ((Mt 2)) from by rw [r2]; exact hs) (show StOk ((Mt 4)) from by rw [r4]; exact hst) (show (Mt 1) 3 = (nv : Int) from by rw [r1]; exact hnv) (show nv ≤ 4 from hn4) (show (Mt 1) 2 = (np : Int) from by rw [r1]; exact hnp) (show CdOk ((Mt 2)) ((Mt 3)) np from by rw [r2, r3]; exact hcd) (show b = 1 ∨ b = 2 from hb12) (show t < vc b from by omega) (show (up1 (up1 (up1 (Mt 23) 0 (spA b t)) 1 (spB b t)) 2 (spC b t)) 0 = spA b t ∧ (up1 (up1 (up1 (Mt 23) 0 (spA b t)) 1 (spB b t)) 2 (spC b t)) 1 = spB b t ∧ (up1 (up1 (up1 (Mt 23) 0 (spA b t)) 1 (spB b t)) 2 (spC b t)) 2 = spC b t from ⟨rfl, rfl, rfl⟩) (show ∀ v : Nat, v < nv → ¬ earP ((up1 (up1 (up1 (Mt 23) 0 (spA b t)) 1 (spB b t)) 2 (spC b t))) ((Mt 2)) ((Mt 4)) v from by rw [r2, r4]; exact (isFst_neg hf_79).mp (by omega)) (show SS (ups Mt 23 (up1 (up1 (up1 (Mt 23) 0 (spA b t)) 1 (spB b t)) 2 (spC b t))) ((Mt 2)) ((Mt 4)) nv b 1 (ix b t 0 0) from by rw [r2, r4]; exact ss_23 hss (z9_up (q := 0) (by omega) hq23) (nu2_up (q := 0) hb12 (by omega) hq2)) (show (Mt 19) 3 = 1 → buZ ((up1 (up1 (up1 (Mt 23) 0 (spA b t)) 1 (spB b t)) 2 (spC b t))) ((Mt 2)) ≤ (Mt 19) 1 from fun h9 => by first | omega | (exfalso; omega))) mf_X3_tryLines ml_X3_47 rfl rfl (by decide) rfl rfl (Nat.le_of_ble_eq_true rfl) dX3_find_92 (fun M_92 hp_92 => ?_)
              obtain ⟨hss_92, hfr_92⟩ := hp_92
              have hsx_92 : SS M_92 (Mt 2) (Mt 4) nv b 1 (ix b (t + 1) 0 0) := hss_92
              rw [r2, r4] at hsx_92
              refine ww_iinc2 C dX3_find_95 6 rfl (b := ((t + 1 : Nat) : Int)) (by omega) (lv' := [(6, .int (iZ ((t + 1 : Nat) : Int))), (7, .int (iZ 0)), (0, .ref (wa w 19)), (1, .ref (wa w 1)), (2, .int (iZ ((b : Nat) : Int))), (3, .int (iZ 1)), (5, .int (iZ ((vc b : Nat) : Int)))]) (by rw [hkL]; decide) rfl ?_
              refine ww_goto C 25 dX3_find_98 (by decide) ?_
              refine ww_sub [2, 3, 4, 5, 6, 0] rfl ?_
              exact ih_25 (t + 1) M_92 (by omega) (frS_tr (fr_23 hfr) hfr_92) (hsx_92) (by omega)
        · refine ww_aload_n C dX3_find_47 0 rfl ?_
          refine gt_X3_29 C dX3_find_48 ?_
          refine ww_aload_n C dX3_find_51 1 rfl ?_
          refine ww_callV C (As := [.ref (wa w 1)]) 22 (pl_lt (Or.inr (Or.inr rfl))) (ct_X1_beatsUnfolded w (ups Mt 23 (up1 (up1 (up1 (Mt 23) 0 (spA b t)) 1 (spB b t)) 2 (spC b t))) 22 (show pl 22 from Or.inr (Or.inr rfl)) (show NuOk ((ups Mt 23 (up1 (up1 (up1 (Mt 23) 0 (spA b t)) 1 (spB b t)) 2 (spC b t))) (22 + 1)) from Nu2_3 hg2) (show SzOk ((Mt 2)) from by rw [r2]; exact hs)) mf_X1_beatsUnfolded ml_X3_40 (pl_cell (Or.inr (Or.inr rfl)) _) rfl (by decide) rfl rfl (Nat.le_of_ble_eq_true rfl) dX3_find_52 (fun z_52 M_52 hp_52 => ?_)
          rw [hp_52.1, hp_52.2]
          refine ww_top (b := buZ ((ups Mt 23 (up1 (up1 (up1 (Mt 23) 0 (spA b t)) 1 (spB b t)) 2 (spC b t))) (22 + 1)) ((Mt 2))) rfl ?_
          refine ww_top (b := buZ (up1 (up1 (up1 (Mt 23) 0 (spA b t)) 1 (spB b t)) 2 (spC b t)) (Mt 2)) (rfl) ?_
          refine ww_aload_n C dX3_find_55 0 rfl ?_
          refine gt_X3_18 C dX3_find_56 ?_
          refine ww_top (b := Mt 19 1) rfl ?_
          refine ww_icmp_le C 66 dX3_find_59 (by decide) (by omega) (hqr1) (fun c_59 => ?_) (fun c_59 => ?_)
          · refine ww_iconst C dX3_find_66 ?_
            refine ww_istore C dX3_find_67 (lv' := [(7, .int (iZ 0)), (0, .ref (wa w 19)), (1, .ref (wa w 1)), (2, .int (iZ ((b : Nat) : Int))), (3, .int (iZ 1)), (5, .int (iZ ((vc b : Nat) : Int))), (6, .int (iZ ((t : Nat) : Int)))]) (by rw [hkL]; decide) rfl ?_
            refine ww_iload C dX3_find_69 0 rfl ?_
            refine ww_if_ne C 95 dX3_find_71 (by decide) (by omega) (fun c_71 => ?_) (fun c_71 => ?_)
            · exact absurd c_71 (by decide)
            · refine ww_aload_n C dX3_find_74 1 rfl ?_
              refine gt_X3_29 C dX3_find_75 ?_
              refine ww_aload_n C dX3_find_78 2 rfl ?_
              refine ww_callV C (As := [.ref (wa w 1)]) 22 (pl_lt (Or.inr (Or.inr rfl))) (ct_X1_tooEarly w (ups Mt 23 (up1 (up1 (up1 (Mt 23) 0 (spA b t)) 1 (spB b t)) 2 (spC b t))) 22 nv (show pl 22 from Or.inr (Or.inr rfl)) (show NuOk ((ups Mt 23 (up1 (up1 (up1 (Mt 23) 0 (spA b t)) 1 (spB b t)) 2 (spC b t))) (22 + 1)) from Nu2_3 hg2) (show (Mt 1) 3 = (nv : Int) from by rw [r1]; exact hnv) (show nv ≤ 4 from hn4) (show SzOk ((Mt 2)) from by rw [r2]; exact hs) (show StOk ((Mt 4)) from by rw [r4]; exact hst)) mf_X1_tooEarly ml_X3_44 (pl_cell (Or.inr (Or.inr rfl)) _) rfl (by decide) rfl rfl (Nat.le_of_ble_eq_true rfl) dX3_find_79 (fun z_79 M_79 hp_79 => ?_)
              obtain ⟨hf_79, hm_79⟩ := hp_79
              have hf_79 : isFst (earP (up1 (up1 (up1 (Mt 23) 0 (spA b t)) 1 (spB b t)) 2 (spC b t)) (Mt 2) (Mt 4)) nv z_79 := hf_79
              rw [r2, r4] at hf_79
              have r79 := isFst_R (by omega) hf_79
              refine ww_mem (M1 := ups Mt 23 (up1 (up1 (up1 (Mt 23) 0 (spA b t)) 1 (spB b t)) 2 (spC b t))) (hm_79) ?_
              refine ww_iconst C dX3_find_82 ?_
              refine ww_icmp_ne C 95 dX3_find_83 (by decide) (by omega) (by omega) (fun c_83 => ?_) (fun c_83 => ?_)
              · refine ww_iinc2 C dX3_find_95 6 rfl (b := ((t + 1 : Nat) : Int)) (by omega) (lv' := [(6, .int (iZ ((t + 1 : Nat) : Int))), (7, .int (iZ 0)), (0, .ref (wa w 19)), (1, .ref (wa w 1)), (2, .int (iZ ((b : Nat) : Int))), (3, .int (iZ 1)), (5, .int (iZ ((vc b : Nat) : Int)))]) (by rw [hkL]; decide) rfl ?_
                refine ww_goto C 25 dX3_find_98 (by decide) ?_
                refine ww_sub [2, 3, 4, 5, 6, 0] rfl ?_
                exact ih_25 (t + 1) (ups Mt 23 (up1 (up1 (up1 (Mt 23) 0 (spA b t)) 1 (spB b t)) 2 (spC b t))) (by omega) (fr_23 hfr) (fd_ear (g := up1 (up1 (up1 (Mt 23) 0 (spA b t)) 1 (spB b t)) 2 (spC b t)) (ss_23 hss (z9_up (q := 0) (by omega) hq23) (nu2_up (q := 0) hb12 (by omega) hq2)) hb12 ⟨rfl, rfl, rfl⟩ hf_79 c_83) (by omega)
              · refine ww_aload_n C dX3_find_86 1 rfl ?_
                refine ww_aload_n C dX3_find_87 2 rfl ?_
                refine ww_iload_n C dX3_find_88 3 rfl ?_
                refine ww_iload_n C dX3_find_89 4 rfl ?_
                refine ww_iload C dX3_find_90 5 rfl ?_
                refine ww_callVV C (As := [.ref (wa w 1), .int (iZ ((b : Nat) : Int)), .int (iZ 1), .int (iZ ((vc b : Nat) : Int))]) 19 (by decide) (ct_X3_tryLines_1 w (ups Mt 23 (up1 (up1 (up1 (Mt 23) 0 (spA b t)) 1 (spB b t)) 2 (spC b t))) nv np b t (show SzOk ((Mt 2)) from by rw [r2]; exact hs) (show StOk ((Mt 4)) from by rw [r4]; exact hst) (show (Mt 1) 3 = (nv : Int) from by rw [r1]; exact hnv) (show nv ≤ 4 from hn4) (show (Mt 1) 2 = (np : Int) from by rw [r1]; exact hnp) (show CdOk ((Mt 2)) ((Mt 3)) np from by rw [r2, r3]; exact hcd) (show b = 1 ∨ b = 2 from hb12) (show t < vc b from by omega) (show (up1 (up1 (up1 (Mt 23) 0 (spA b t)) 1 (spB b t)) 2 (spC b t)) 0 = spA b t ∧ (up1 (up1 (up1 (Mt 23) 0 (spA b t)) 1 (spB b t)) 2 (spC b t)) 1 = spB b t ∧ (up1 (up1 (up1 (Mt 23) 0 (spA b t)) 1 (spB b t)) 2 (spC b t)) 2 = spC b t from ⟨rfl, rfl, rfl⟩) (show ∀ v : Nat, v < nv → ¬ earP ((up1 (up1 (up1 (Mt 23) 0 (spA b t)) 1 (spB b t)) 2 (spC b t))) ((Mt 2)) ((Mt 4)) v from by rw [r2, r4]; exact (isFst_neg hf_79).mp (by omega)) (show SS (ups Mt 23 (up1 (up1 (up1 (Mt 23) 0 (spA b t)) 1 (spB b t)) 2 (spC b t))) ((Mt 2)) ((Mt 4)) nv b 1 (ix b t 0 0) from by rw [r2, r4]; exact ss_23 hss (z9_up (q := 0) (by omega) hq23) (nu2_up (q := 0) hb12 (by omega) hq2)) (show (Mt 19) 3 = 1 → buZ ((up1 (up1 (up1 (Mt 23) 0 (spA b t)) 1 (spB b t)) 2 (spC b t))) ((Mt 2)) ≤ (Mt 19) 1 from fun h9 => by first | omega | (exfalso; omega))) mf_X3_tryLines ml_X3_47 rfl rfl (by decide) rfl rfl (Nat.le_of_ble_eq_true rfl) dX3_find_92 (fun M_92 hp_92 => ?_)
                obtain ⟨hss_92, hfr_92⟩ := hp_92
                have hsx_92 : SS M_92 (Mt 2) (Mt 4) nv b 1 (ix b (t + 1) 0 0) := hss_92
                rw [r2, r4] at hsx_92
                refine ww_iinc2 C dX3_find_95 6 rfl (b := ((t + 1 : Nat) : Int)) (by omega) (lv' := [(6, .int (iZ ((t + 1 : Nat) : Int))), (7, .int (iZ 0)), (0, .ref (wa w 19)), (1, .ref (wa w 1)), (2, .int (iZ ((b : Nat) : Int))), (3, .int (iZ 1)), (5, .int (iZ ((vc b : Nat) : Int)))]) (by rw [hkL]; decide) rfl ?_
                refine ww_goto C 25 dX3_find_98 (by decide) ?_
                refine ww_sub [2, 3, 4, 5, 6, 0] rfl ?_
                exact ih_25 (t + 1) M_92 (by omega) (frS_tr (fr_23 hfr) hfr_92) (hsx_92) (by omega)
          · refine ww_iconst C dX3_find_62 ?_
            refine ww_goto C 67 dX3_find_63 (by decide) ?_
            refine ww_istore C dX3_find_67 (lv' := [(7, .int (iZ 1)), (0, .ref (wa w 19)), (1, .ref (wa w 1)), (2, .int (iZ ((b : Nat) : Int))), (3, .int (iZ 1)), (5, .int (iZ ((vc b : Nat) : Int))), (6, .int (iZ ((t : Nat) : Int)))]) (by rw [hkL]; decide) rfl ?_
            refine ww_iload C dX3_find_69 0 rfl ?_
            refine ww_if_ne C 95 dX3_find_71 (by decide) (by omega) (fun c_71 => ?_) (fun c_71 => ?_)
            · refine ww_iinc2 C dX3_find_95 6 rfl (b := ((t + 1 : Nat) : Int)) (by omega) (lv' := [(6, .int (iZ ((t + 1 : Nat) : Int))), (7, .int (iZ 1)), (0, .ref (wa w 19)), (1, .ref (wa w 1)), (2, .int (iZ ((b : Nat) : Int))), (3, .int (iZ 1)), (5, .int (iZ ((vc b : Nat) : Int)))]) (by rw [hkL]; decide) rfl ?_
              refine ww_goto C 25 dX3_find_98 (by decide) ?_
              refine ww_sub [2, 3, 4, 5, 6, 0] rfl ?_
              exact ih_25 (t + 1) (ups Mt 23 (up1 (up1 (up1 (Mt 23) 0 (spA b t)) 1 (spB b t)) 2 (spC b t))) (by omega) (fr_23 hfr) (fd_slow (g := up1 (up1 (up1 (Mt 23) 0 (spA b t)) 1 (spB b t)) 2 (spC b t)) (ss_23 hss (z9_up (q := 0) (by omega) hq23) (nu2_up (q := 0) hb12 (by omega) hq2)) hb12 ⟨rfl, rfl, rfl⟩ (by show Mt 19 3 = 1; omega) (by show Mt 19 1 < buZ (up1 (up1 (up1 (Mt 23) 0 (spA b t)) 1 (spB b t)) 2 (spC b t)) (M 2); rw [← r2]; omega)) (by omega)
            · exact absurd c_71 (by decide)
  refine ww_sub [3, 4, 5, 6, 1, 0] rfl ?_
  exact L_25 _ 0 (ups M 19 (up1 (M 19) 3 0)) (by omega) (fun h9 a9 b9 c9 d9 => by rw [ups_n a9]) (ss_begin hsi) (Nat.lt_succ_self _)
set_option maxRecDepth 100000 in
set_option maxHeartbeats 4000000 in
theorem ct_X3_find_2 (w : WLD) (M : Mem) (nv np b : Nat) (hs : SzOk (M 2)) (hst : StOk (M 4)) (hnv : M 1 3 = (nv : Int)) (hn4 : nv ≤ 4) (hnp : M 1 2 = (np : Int)) (hcd : CdOk (M 2) (M 3) np) (hb12 : b = 1 ∨ b = 2) (hsi : SInv M) : CtI w yX3_find cX3_find 8 (some .boolean) rm_X3_find [.ref (wa w 19), .ref (wa w 1), .int (iZ ((b : Nat) : Int)), .int (iZ 2)] M (fun z M1 => z = M1 19 3 ∧ SS M1 (M 2) (M 4) nv b 2 (ix b (vc b) 0 0) ∧ frS M M1) := by
  refine CtI.ofZ (by decide) (Nat.le_of_ble_eq_true rfl) rfl rfl (fun z M9 h9 => by rw [h9.1]; exact h9.2.1.2.2.2.2.2.2.2) ?_
  intro k hkL C RT
  have hvv := vc_v hb12
  show WW w k 0 [(0, .ref (wa w 19)), (1, .ref (wa w 1)), (2, .int (iZ ((b : Nat) : Int))), (3, .int (iZ 2))] [] M
  refine ww_aload_n C dX3_find_0 0 rfl ?_
  refine ww_iconst C dX3_find_1 ?_
  refine pt_X3_25 C (by decide) dX3_find_2 ?_
  refine ww_iconst C dX3_find_5 ?_
  refine ww_iload_n C dX3_find_6 2 rfl ?_
  refine ww_imul C dX3_find_7 ?_
  refine ww_iconst C dX3_find_8 ?_
  refine ww_iadd C dX3_find_9 ?_
  refine ww_top (b := ((2 * b + 1 : Nat) : Int)) (by omega) ?_
  refine ww_istore C dX3_find_10 (lv' := [(4, .int (iZ ((2 * b + 1 : Nat) : Int))), (0, .ref (wa w 19)), (1, .ref (wa w 1)), (2, .int (iZ ((b : Nat) : Int))), (3, .int (iZ 2))]) (by rw [hkL]; decide) rfl ?_
  refine ww_iload C dX3_find_12 0 rfl ?_
  refine ww_iload C dX3_find_14 0 rfl ?_
  refine ww_imul C dX3_find_16 ?_
  refine ww_top (b := (((2 * b + 1) * (2 * b + 1) : Nat) : Int)) (by rw [Int.natCast_mul]) ?_
  refine ww_iload C dX3_find_17 0 rfl ?_
  refine ww_imul C dX3_find_19 ?_
  refine ww_top (b := ((vc b : Nat) : Int)) (by rw [Int.natCast_mul ((2 * b + 1) * (2 * b + 1))]) ?_
  refine ww_istore C dX3_find_20 (lv' := [(5, .int (iZ ((vc b : Nat) : Int))), (4, .int (iZ ((2 * b + 1 : Nat) : Int))), (0, .ref (wa w 19)), (1, .ref (wa w 1)), (2, .int (iZ ((b : Nat) : Int))), (3, .int (iZ 2))]) (by rw [hkL]; decide) rfl ?_
  refine ww_iconst C dX3_find_22 ?_
  refine ww_istore C dX3_find_23 (lv' := [(6, .int (iZ 0)), (5, .int (iZ ((vc b : Nat) : Int))), (4, .int (iZ ((2 * b + 1 : Nat) : Int))), (0, .ref (wa w 19)), (1, .ref (wa w 1)), (2, .int (iZ ((b : Nat) : Int))), (3, .int (iZ 2))]) (by rw [hkL]; decide) rfl ?_
  have L_25 : ∀ (fuel : Nat) (t : Nat) (Mt : Mem) (ht : t ≤ vc b) (hfr : frS M Mt) (hss : SS Mt (M 2) (M 4) nv b 2 (ix b t 0 0)), vc b - t < fuel → WW w k 25 [(0, .ref (wa w 19)), (1, .ref (wa w 1)), (2, .int (iZ ((b : Nat) : Int))), (3, .int (iZ 2)), (5, .int (iZ ((vc b : Nat) : Int))), (6, .int (iZ ((t : Nat) : Int)))] [] Mt := by
    intro fuel
    induction fuel with
    | zero => intro t Mt ht hfr hss hf_25; exact absurd hf_25 (Nat.not_lt_zero _)
    | succ fuel ih_25 =>
      intro t Mt ht hfr hss hf_25
      have r1 := hfr 1 (by decide) (by decide) (by decide) (by decide)
      have r2 := hfr 2 (by decide) (by decide) (by decide) (by decide)
      have r3 := hfr 3 (by decide) (by decide) (by decide) (by decide)
      have r4 := hfr 4 (by decide) (by decide) (by decide) (by decide)
      obtain ⟨hq1, hq21, hq23, hq2, hq24, hqr1, hqr2, hqF⟩ := id hss
      refine ww_iload C dX3_find_25 5 rfl ?_
      refine ww_iload C dX3_find_27 4 rfl ?_
      refine ww_icmp_ge C 101 dX3_find_29 (by decide) (by omega) (by omega) (fun c_29 => ?_) (fun c_29 => ?_)
      · refine ww_aload_n C dX3_find_101 0 rfl ?_
        refine gt_X3_25 C dX3_find_102 ?_
        exact RT _ _ _ _ dX3_find_105 (⟨rfl, by rw [show t = vc b by omega] at hss; exact hss, hfr⟩)
      · refine ww_aload_n C dX3_find_32 0 rfl ?_
        refine ww_iconst C dX3_find_33 ?_
        refine ww_iload C dX3_find_34 5 rfl ?_
        refine ww_iload_n C dX3_find_36 2 rfl ?_
        refine ww_callVV C (As := [.int (iZ 0), .int (iZ ((t : Nat) : Int)), .int (iZ ((b : Nat) : Int))]) 19 (by decide) (ct_X3_spell w Mt 0 t b (by decide) (hb12) (by omega)) mf_X3_spell ml_X3_36 rfl rfl (by decide) rfl rfl (Nat.le_of_ble_eq_true rfl) dX3_find_37 (fun M_37 hp_37 => ?_)
        rw [hp_37]
        refine ww_mem (M1 := ups Mt 23 (up1 (up1 (up1 (Mt 23) (3 * 0) (spA b t)) (3 * 0 + 1) (spB b t)) (3 * 0 + 2) (spC b t))) rfl ?_
        refine ww_mem (M1 := ups Mt 23 (up1 (up1 (up1 (Mt 23) 0 (spA b t)) 1 (spB b t)) 2 (spC b t))) (rfl) ?_
        have hg2 : Nu2 (up1 (up1 (up1 (Mt 23) 0 (spA b t)) 1 (spB b t)) 2 (spC b t)) := nu2_up (q := 0) hb12 (by omega) hq2
        have hbz := buZ_b (Nu2_3 hg2) hs
        rw [← r2] at hbz
        refine ww_aload_n C dX3_find_40 0 rfl ?_
        refine gt_X3_25 C dX3_find_41 ?_
        refine ww_top (b := Mt 19 3) rfl ?_
        refine ww_if_eq C 66 dX3_find_44 (by decide) (by omega) (fun c_44 => ?_) (fun c_44 => ?_)
        · refine ww_iconst C dX3_find_66 ?_
          refine ww_istore C dX3_find_67 (lv' := [(7, .int (iZ 0)), (0, .ref (wa w 19)), (1, .ref (wa w 1)), (2, .int (iZ ((b : Nat) : Int))), (3, .int (iZ 2)), (5, .int (iZ ((vc b : Nat) : Int))), (6, .int (iZ ((t : Nat) : Int)))]) (by rw [hkL]; decide) rfl ?_
          refine ww_iload C dX3_find_69 0 rfl ?_
          refine ww_if_ne C 95 dX3_find_71 (by decide) (by omega) (fun c_71 => ?_) (fun c_71 => ?_)
          · exact absurd c_71 (by decide)
          · refine ww_aload_n C dX3_find_74 1 rfl ?_
            refine gt_X3_29 C dX3_find_75 ?_
            refine ww_aload_n C dX3_find_78 2 rfl ?_
            refine ww_callV C (As := [.ref (wa w 1)]) 22 (pl_lt (Or.inr (Or.inr rfl))) (ct_X1_tooEarly w (ups Mt 23 (up1 (up1 (up1 (Mt 23) 0 (spA b t)) 1 (spB b t)) 2 (spC b t))) 22 nv (show pl 22 from Or.inr (Or.inr rfl)) (show NuOk ((ups Mt 23 (up1 (up1 (up1 (Mt 23) 0 (spA b t)) 1 (spB b t)) 2 (spC b t))) (22 + 1)) from Nu2_3 hg2) (show (Mt 1) 3 = (nv : Int) from by rw [r1]; exact hnv) (show nv ≤ 4 from hn4) (show SzOk ((Mt 2)) from by rw [r2]; exact hs) (show StOk ((Mt 4)) from by rw [r4]; exact hst)) mf_X1_tooEarly ml_X3_44 (pl_cell (Or.inr (Or.inr rfl)) _) rfl (by decide) rfl rfl (Nat.le_of_ble_eq_true rfl) dX3_find_79 (fun z_79 M_79 hp_79 => ?_)
            obtain ⟨hf_79, hm_79⟩ := hp_79
            have hf_79 : isFst (earP (up1 (up1 (up1 (Mt 23) 0 (spA b t)) 1 (spB b t)) 2 (spC b t)) (Mt 2) (Mt 4)) nv z_79 := hf_79
            rw [r2, r4] at hf_79
            have r79 := isFst_R (by omega) hf_79
            refine ww_mem (M1 := ups Mt 23 (up1 (up1 (up1 (Mt 23) 0 (spA b t)) 1 (spB b t)) 2 (spC b t))) (hm_79) ?_
            refine ww_iconst C dX3_find_82 ?_
            refine ww_icmp_ne C 95 dX3_find_83 (by decide) (by omega) (by omega) (fun c_83 => ?_) (fun c_83 => ?_)
            · refine ww_iinc2 C dX3_find_95 6 rfl (b := ((t + 1 : Nat) : Int)) (by omega) (lv' := [(6, .int (iZ ((t + 1 : Nat) : Int))), (7, .int (iZ 0)), (0, .ref (wa w 19)), (1, .ref (wa w 1)), (2, .int (iZ ((b : Nat) : Int))), (3, .int (iZ 2)), (5, .int (iZ ((vc b : Nat) : Int)))]) (by rw [hkL]; decide) rfl ?_
              refine ww_goto C 25 dX3_find_98 (by decide) ?_
              refine ww_sub [2, 3, 4, 5, 6, 0] rfl ?_
              exact ih_25 (t + 1) (ups Mt 23 (up1 (up1 (up1 (Mt 23) 0 (spA b t)) 1 (spB b t)) 2 (spC b t))) (by omega) (fr_23 hfr) (fd_ear (g := up1 (up1 (up1 (Mt 23) 0 (spA b t)) 1 (spB b t)) 2 (spC b t)) (ss_23 hss (z9_up (q := 0) (by omega) hq23) (nu2_up (q := 0) hb12 (by omega) hq2)) hb12 ⟨rfl, rfl, rfl⟩ hf_79 c_83) (by omega)
            · refine ww_aload_n C dX3_find_86 1 rfl ?_
              refine ww_aload_n C dX3_find_87 2 rfl ?_
              refine ww_iload_n C dX3_find_88 3 rfl ?_
              refine ww_iload_n C dX3_find_89 4 rfl ?_
              refine ww_iload C dX3_find_90 5 rfl ?_
              refine ww_callVV C (As := [.ref (wa w 1), .int (iZ ((b : Nat) : Int)), .int (iZ 2), .int (iZ ((vc b : Nat) : Int))]) 19 (by decide) (ct_X3_tryLines_2 w (ups Mt 23 (up1 (up1 (up1 (Mt 23) 0 (spA b t)) 1 (spB b t)) 2 (spC b t))) nv np b t (show SzOk ((Mt 2)) from by rw [r2]; exact hs) (show StOk ((Mt 4)) from by rw [r4]; exact hst) (show (Mt 1) 3 = (nv : Int) from by rw [r1]; exact hnv) (show nv ≤ 4 from hn4) (show (Mt 1) 2 = (np : Int) from by rw [r1]; exact hnp) (show CdOk ((Mt 2)) ((Mt 3)) np from by rw [r2, r3]; exact hcd) (show b = 1 ∨ b = 2 from hb12) (show t < vc b from by omega) (show (up1 (up1 (up1 (Mt 23) 0 (spA b t)) 1 (spB b t)) 2 (spC b t)) 0 = spA b t ∧ (up1 (up1 (up1 (Mt 23) 0 (spA b t)) 1 (spB b t)) 2 (spC b t)) 1 = spB b t ∧ (up1 (up1 (up1 (Mt 23) 0 (spA b t)) 1 (spB b t)) 2 (spC b t)) 2 = spC b t from ⟨rfl, rfl, rfl⟩) (show ∀ v : Nat, v < nv → ¬ earP ((up1 (up1 (up1 (Mt 23) 0 (spA b t)) 1 (spB b t)) 2 (spC b t))) ((Mt 2)) ((Mt 4)) v from by rw [r2, r4]; exact (isFst_neg hf_79).mp (by omega)) (show SS (ups Mt 23 (up1 (up1 (up1 (Mt 23) 0 (spA b t)) 1 (spB b t)) 2 (spC b t))) ((Mt 2)) ((Mt 4)) nv b 2 (ix b t 0 0) from by rw [r2, r4]; exact ss_23 hss (z9_up (q := 0) (by omega) hq23) (nu2_up (q := 0) hb12 (by omega) hq2)) (show (Mt 19) 3 = 1 → buZ ((up1 (up1 (up1 (Mt 23) 0 (spA b t)) 1 (spB b t)) 2 (spC b t))) ((Mt 2)) ≤ (Mt 19) 1 from fun h9 => by first | omega | (exfalso; omega))) mf_X3_tryLines ml_X3_47 rfl rfl (by decide) rfl rfl (Nat.le_of_ble_eq_true rfl) dX3_find_92 (fun M_92 hp_92 => ?_)
              obtain ⟨hss_92, hfr_92⟩ := hp_92
              have hsx_92 : SS M_92 (Mt 2) (Mt 4) nv b 2 (ix b (t + 1) 0 0) := hss_92
              rw [r2, r4] at hsx_92
              refine ww_iinc2 C dX3_find_95 6 rfl (b := ((t + 1 : Nat) : Int)) (by omega) (lv' := [(6, .int (iZ ((t + 1 : Nat) : Int))), (7, .int (iZ 0)), (0, .ref (wa w 19)), (1, .ref (wa w 1)), (2, .int (iZ ((b : Nat) : Int))), (3, .int (iZ 2)), (5, .int (iZ ((vc b : Nat) : Int)))]) (by rw [hkL]; decide) rfl ?_
              refine ww_goto C 25 dX3_find_98 (by decide) ?_
              refine ww_sub [2, 3, 4, 5, 6, 0] rfl ?_
              exact ih_25 (t + 1) M_92 (by omega) (frS_tr (fr_23 hfr) hfr_92) (hsx_92) (by omega)
        · refine ww_aload_n C dX3_find_47 0 rfl ?_
          refine gt_X3_29 C dX3_find_48 ?_
          refine ww_aload_n C dX3_find_51 1 rfl ?_
          refine ww_callV C (As := [.ref (wa w 1)]) 22 (pl_lt (Or.inr (Or.inr rfl))) (ct_X1_beatsUnfolded w (ups Mt 23 (up1 (up1 (up1 (Mt 23) 0 (spA b t)) 1 (spB b t)) 2 (spC b t))) 22 (show pl 22 from Or.inr (Or.inr rfl)) (show NuOk ((ups Mt 23 (up1 (up1 (up1 (Mt 23) 0 (spA b t)) 1 (spB b t)) 2 (spC b t))) (22 + 1)) from Nu2_3 hg2) (show SzOk ((Mt 2)) from by rw [r2]; exact hs)) mf_X1_beatsUnfolded ml_X3_40 (pl_cell (Or.inr (Or.inr rfl)) _) rfl (by decide) rfl rfl (Nat.le_of_ble_eq_true rfl) dX3_find_52 (fun z_52 M_52 hp_52 => ?_)
          rw [hp_52.1, hp_52.2]
          refine ww_top (b := buZ ((ups Mt 23 (up1 (up1 (up1 (Mt 23) 0 (spA b t)) 1 (spB b t)) 2 (spC b t))) (22 + 1)) ((Mt 2))) rfl ?_
          refine ww_top (b := buZ (up1 (up1 (up1 (Mt 23) 0 (spA b t)) 1 (spB b t)) 2 (spC b t)) (Mt 2)) (rfl) ?_
          refine ww_aload_n C dX3_find_55 0 rfl ?_
          refine gt_X3_18 C dX3_find_56 ?_
          refine ww_top (b := Mt 19 1) rfl ?_
          refine ww_icmp_le C 66 dX3_find_59 (by decide) (by omega) (hqr1) (fun c_59 => ?_) (fun c_59 => ?_)
          · refine ww_iconst C dX3_find_66 ?_
            refine ww_istore C dX3_find_67 (lv' := [(7, .int (iZ 0)), (0, .ref (wa w 19)), (1, .ref (wa w 1)), (2, .int (iZ ((b : Nat) : Int))), (3, .int (iZ 2)), (5, .int (iZ ((vc b : Nat) : Int))), (6, .int (iZ ((t : Nat) : Int)))]) (by rw [hkL]; decide) rfl ?_
            refine ww_iload C dX3_find_69 0 rfl ?_
            refine ww_if_ne C 95 dX3_find_71 (by decide) (by omega) (fun c_71 => ?_) (fun c_71 => ?_)
            · exact absurd c_71 (by decide)
            · refine ww_aload_n C dX3_find_74 1 rfl ?_
              refine gt_X3_29 C dX3_find_75 ?_
              refine ww_aload_n C dX3_find_78 2 rfl ?_
              refine ww_callV C (As := [.ref (wa w 1)]) 22 (pl_lt (Or.inr (Or.inr rfl))) (ct_X1_tooEarly w (ups Mt 23 (up1 (up1 (up1 (Mt 23) 0 (spA b t)) 1 (spB b t)) 2 (spC b t))) 22 nv (show pl 22 from Or.inr (Or.inr rfl)) (show NuOk ((ups Mt 23 (up1 (up1 (up1 (Mt 23) 0 (spA b t)) 1 (spB b t)) 2 (spC b t))) (22 + 1)) from Nu2_3 hg2) (show (Mt 1) 3 = (nv : Int) from by rw [r1]; exact hnv) (show nv ≤ 4 from hn4) (show SzOk ((Mt 2)) from by rw [r2]; exact hs) (show StOk ((Mt 4)) from by rw [r4]; exact hst)) mf_X1_tooEarly ml_X3_44 (pl_cell (Or.inr (Or.inr rfl)) _) rfl (by decide) rfl rfl (Nat.le_of_ble_eq_true rfl) dX3_find_79 (fun z_79 M_79 hp_79 => ?_)
              obtain ⟨hf_79, hm_79⟩ := hp_79
              have hf_79 : isFst (earP (up1 (up1 (up1 (Mt 23) 0 (spA b t)) 1 (spB b t)) 2 (spC b t)) (Mt 2) (Mt 4)) nv z_79 := hf_79
              rw [r2, r4] at hf_79
              have r79 := isFst_R (by omega) hf_79
              refine ww_mem (M1 := ups Mt 23 (up1 (up1 (up1 (Mt 23) 0 (spA b t)) 1 (spB b t)) 2 (spC b t))) (hm_79) ?_
              refine ww_iconst C dX3_find_82 ?_
              refine ww_icmp_ne C 95 dX3_find_83 (by decide) (by omega) (by omega) (fun c_83 => ?_) (fun c_83 => ?_)
              · refine ww_iinc2 C dX3_find_95 6 rfl (b := ((t + 1 : Nat) : Int)) (by omega) (lv' := [(6, .int (iZ ((t + 1 : Nat) : Int))), (7, .int (iZ 0)), (0, .ref (wa w 19)), (1, .ref (wa w 1)), (2, .int (iZ ((b : Nat) : Int))), (3, .int (iZ 2)), (5, .int (iZ ((vc b : Nat) : Int)))]) (by rw [hkL]; decide) rfl ?_
                refine ww_goto C 25 dX3_find_98 (by decide) ?_
                refine ww_sub [2, 3, 4, 5, 6, 0] rfl ?_
                exact ih_25 (t + 1) (ups Mt 23 (up1 (up1 (up1 (Mt 23) 0 (spA b t)) 1 (spB b t)) 2 (spC b t))) (by omega) (fr_23 hfr) (fd_ear (g := up1 (up1 (up1 (Mt 23) 0 (spA b t)) 1 (spB b t)) 2 (spC b t)) (ss_23 hss (z9_up (q := 0) (by omega) hq23) (nu2_up (q := 0) hb12 (by omega) hq2)) hb12 ⟨rfl, rfl, rfl⟩ hf_79 c_83) (by omega)
              · refine ww_aload_n C dX3_find_86 1 rfl ?_
                refine ww_aload_n C dX3_find_87 2 rfl ?_
                refine ww_iload_n C dX3_find_88 3 rfl ?_
                refine ww_iload_n C dX3_find_89 4 rfl ?_
                refine ww_iload C dX3_find_90 5 rfl ?_
                refine ww_callVV C (As := [.ref (wa w 1), .int (iZ ((b : Nat) : Int)), .int (iZ 2), .int (iZ ((vc b : Nat) : Int))]) 19 (by decide) (ct_X3_tryLines_2 w (ups Mt 23 (up1 (up1 (up1 (Mt 23) 0 (spA b t)) 1 (spB b t)) 2 (spC b t))) nv np b t (show SzOk ((Mt 2)) from by rw [r2]; exact hs) (show StOk ((Mt 4)) from by rw [r4]; exact hst) (show (Mt 1) 3 = (nv : Int) from by rw [r1]; exact hnv) (show nv ≤ 4 from hn4) (show (Mt 1) 2 = (np : Int) from by rw [r1]; exact hnp) (show CdOk ((Mt 2)) ((Mt 3)) np from by rw [r2, r3]; exact hcd) (show b = 1 ∨ b = 2 from hb12) (show t < vc b from by omega) (show (up1 (up1 (up1 (Mt 23) 0 (spA b t)) 1 (spB b t)) 2 (spC b t)) 0 = spA b t ∧ (up1 (up1 (up1 (Mt 23) 0 (spA b t)) 1 (spB b t)) 2 (spC b t)) 1 = spB b t ∧ (up1 (up1 (up1 (Mt 23) 0 (spA b t)) 1 (spB b t)) 2 (spC b t)) 2 = spC b t from ⟨rfl, rfl, rfl⟩) (show ∀ v : Nat, v < nv → ¬ earP ((up1 (up1 (up1 (Mt 23) 0 (spA b t)) 1 (spB b t)) 2 (spC b t))) ((Mt 2)) ((Mt 4)) v from by rw [r2, r4]; exact (isFst_neg hf_79).mp (by omega)) (show SS (ups Mt 23 (up1 (up1 (up1 (Mt 23) 0 (spA b t)) 1 (spB b t)) 2 (spC b t))) ((Mt 2)) ((Mt 4)) nv b 2 (ix b t 0 0) from by rw [r2, r4]; exact ss_23 hss (z9_up (q := 0) (by omega) hq23) (nu2_up (q := 0) hb12 (by omega) hq2)) (show (Mt 19) 3 = 1 → buZ ((up1 (up1 (up1 (Mt 23) 0 (spA b t)) 1 (spB b t)) 2 (spC b t))) ((Mt 2)) ≤ (Mt 19) 1 from fun h9 => by first | omega | (exfalso; omega))) mf_X3_tryLines ml_X3_47 rfl rfl (by decide) rfl rfl (Nat.le_of_ble_eq_true rfl) dX3_find_92 (fun M_92 hp_92 => ?_)
                obtain ⟨hss_92, hfr_92⟩ := hp_92
                have hsx_92 : SS M_92 (Mt 2) (Mt 4) nv b 2 (ix b (t + 1) 0 0) := hss_92
                rw [r2, r4] at hsx_92
                refine ww_iinc2 C dX3_find_95 6 rfl (b := ((t + 1 : Nat) : Int)) (by omega) (lv' := [(6, .int (iZ ((t + 1 : Nat) : Int))), (7, .int (iZ 0)), (0, .ref (wa w 19)), (1, .ref (wa w 1)), (2, .int (iZ ((b : Nat) : Int))), (3, .int (iZ 2)), (5, .int (iZ ((vc b : Nat) : Int)))]) (by rw [hkL]; decide) rfl ?_
                refine ww_goto C 25 dX3_find_98 (by decide) ?_
                refine ww_sub [2, 3, 4, 5, 6, 0] rfl ?_
                exact ih_25 (t + 1) M_92 (by omega) (frS_tr (fr_23 hfr) hfr_92) (hsx_92) (by omega)
          · refine ww_iconst C dX3_find_62 ?_
            refine ww_goto C 67 dX3_find_63 (by decide) ?_
            refine ww_istore C dX3_find_67 (lv' := [(7, .int (iZ 1)), (0, .ref (wa w 19)), (1, .ref (wa w 1)), (2, .int (iZ ((b : Nat) : Int))), (3, .int (iZ 2)), (5, .int (iZ ((vc b : Nat) : Int))), (6, .int (iZ ((t : Nat) : Int)))]) (by rw [hkL]; decide) rfl ?_
            refine ww_iload C dX3_find_69 0 rfl ?_
            refine ww_if_ne C 95 dX3_find_71 (by decide) (by omega) (fun c_71 => ?_) (fun c_71 => ?_)
            · refine ww_iinc2 C dX3_find_95 6 rfl (b := ((t + 1 : Nat) : Int)) (by omega) (lv' := [(6, .int (iZ ((t + 1 : Nat) : Int))), (7, .int (iZ 1)), (0, .ref (wa w 19)), (1, .ref (wa w 1)), (2, .int (iZ ((b : Nat) : Int))), (3, .int (iZ 2)), (5, .int (iZ ((vc b : Nat) : Int)))]) (by rw [hkL]; decide) rfl ?_
              refine ww_goto C 25 dX3_find_98 (by decide) ?_
              refine ww_sub [2, 3, 4, 5, 6, 0] rfl ?_
              exact ih_25 (t + 1) (ups Mt 23 (up1 (up1 (up1 (Mt 23) 0 (spA b t)) 1 (spB b t)) 2 (spC b t))) (by omega) (fr_23 hfr) (fd_slow (g := up1 (up1 (up1 (Mt 23) 0 (spA b t)) 1 (spB b t)) 2 (spC b t)) (ss_23 hss (z9_up (q := 0) (by omega) hq23) (nu2_up (q := 0) hb12 (by omega) hq2)) hb12 ⟨rfl, rfl, rfl⟩ (by show Mt 19 3 = 1; omega) (by show Mt 19 1 < buZ (up1 (up1 (up1 (Mt 23) 0 (spA b t)) 1 (spB b t)) 2 (spC b t)) (M 2); rw [← r2]; omega)) (by omega)
            · exact absurd c_71 (by decide)
  refine ww_sub [3, 4, 5, 6, 1, 0] rfl ?_
  exact L_25 _ 0 (ups M 19 (up1 (M 19) 3 0)) (by omega) (fun h9 a9 b9 c9 d9 => by rw [ups_n a9]) (ss_begin hsi) (Nat.lt_succ_self _)
