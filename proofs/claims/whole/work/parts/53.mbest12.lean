set_option maxRecDepth 100000 in
set_option maxHeartbeats 4000000 in
theorem ct_X6_best_12 (w : WLD) (M : Mem) (nv : Nat) (hnv : M 30 1 = (nv : Int)) (hn4 : nv ≤ 4) (hs : SzOk (M 31)) (hst : StOk (M 32)) (hnu : NuOk (M 37)) (hf : 1 ≤ M 30 8 ∧ M 30 8 ≤ 8) (h40 : ∀ j : Nat, 4096 ≤ j → M 40 j = 0) (h37 : ∀ q : Nat, 9 ≤ q → M 37 q = 0) (hN2 : True) : CtI w yX6_best cX6_best 14 (some .int) rm_X6_best [.ref (wa w 30), .int (iZ 1), .int (iZ 2)] M (fun z M1 => mbsR M M1 nv 1 2 z) := by
  refine CtI.of (by decide) (Nat.le_of_ble_eq_true rfl) rfl rfl ?_
  intro k hkL C RT
  have hb12 : 1 = 1 ∨ 1 = 2 := by omega
  have hv3 : vc 1 = 27 := rfl
  show WW w k 0 [(0, .ref (wa w 30)), (1, .int (iZ 1)), (2, .int (iZ 2))] [] M
  refine ww_iload_n C dX6_best_0 1 rfl ?_
  refine ww_iconst C dX6_best_1 ?_
  refine ww_iconst C dX6_best_2 ?_
  refine ww_callS C (As := [.int (iZ 1), .int (iZ 1), .int (iZ 2)]) (ct_X6_in w M 1 1 2 (by omega) (by omega) (by omega)) mf_X6_in ml_X6_54 (by decide) rfl rfl (Nat.le_of_ble_eq_true rfl) dX6_best_3 (fun z_3 M_3 hp_3 => ?_)
  rw [hp_3.1, hp_3.2]
  refine ww_ifb_eq C 28 dX6_best_6 (by decide) (fun c_6 => ?_) (fun c_6 => ?_)
  · exfalso; omega
  · refine ww_iload_n C dX6_best_9 2 rfl ?_
    refine ww_iconst C dX6_best_10 ?_
    refine ww_iconst C dX6_best_11 ?_
    refine ww_callS C (As := [.int (iZ 2), .int (iZ 1), .int (iZ 2)]) (ct_X6_in w M 2 1 2 (by omega) (by omega) (by omega)) mf_X6_in ml_X6_54 (by decide) rfl rfl (Nat.le_of_ble_eq_true rfl) dX6_best_12 (fun z_12 M_12 hp_12 => ?_)
    rw [hp_12.1, hp_12.2]
    refine ww_ifb_eq C 28 dX6_best_15 (by decide) (fun c_15 => ?_) (fun c_15 => ?_)
    · exfalso; omega
    · refine ww_iload_n C dX6_best_18 1 rfl ?_
      refine ww_iconst C dX6_best_19 ?_
      refine ww_icmp_ne C 30 dX6_best_20 (by decide) (by omega) (by omega) (fun c_20 => ?_) (fun c_20 => ?_)
      · refine ww_iconst C dX6_best_30 ?_
        refine ww_iload_n C dX6_best_31 1 rfl ?_
        refine ww_imul C dX6_best_32 ?_
        refine ww_top (b := 2) (by decide) ?_
        refine ww_iconst C dX6_best_33 ?_
        refine ww_iadd C dX6_best_34 ?_
        refine ww_top (b := 3) (by decide) ?_
        refine ww_iconst C dX6_best_35 ?_
        refine ww_iload_n C dX6_best_36 1 rfl ?_
        refine ww_imul C dX6_best_37 ?_
        refine ww_top (b := 2) (by decide) ?_
        refine ww_iconst C dX6_best_38 ?_
        refine ww_iadd C dX6_best_39 ?_
        refine ww_top (b := 3) (by decide) ?_
        refine ww_imul C dX6_best_40 ?_
        refine ww_top (b := 9) (by decide) ?_
        refine ww_iconst C dX6_best_41 ?_
        refine ww_iload_n C dX6_best_42 1 rfl ?_
        refine ww_imul C dX6_best_43 ?_
        refine ww_top (b := 2) (by decide) ?_
        refine ww_iconst C dX6_best_44 ?_
        refine ww_iadd C dX6_best_45 ?_
        refine ww_top (b := 3) (by decide) ?_
        refine ww_imul C dX6_best_46 ?_
        refine ww_top (b := 27) (by decide) ?_
        refine ww_istore_n C dX6_best_47 (lv' := [(3, .int (iZ 27)), (0, .ref (wa w 30)), (1, .int (iZ 1)), (2, .int (iZ 2))]) (by rw [hkL]; decide) rfl ?_
        refine ww_iload_n C dX6_best_48 0 rfl ?_
        refine ww_iconst C dX6_best_49 ?_
        refine ww_idivN C dX6_best_50 (by omega) (by omega) ?_
        refine ww_top (b := 13) (by decide) ?_
        refine ww_istore C dX6_best_51 (lv' := [(4, .int (iZ 13)), (3, .int (iZ 27)), (0, .ref (wa w 30)), (1, .int (iZ 1)), (2, .int (iZ 2))]) (by rw [hkL]; decide) rfl ?_
        refine ww_aload_n C dX6_best_53 2 rfl ?_
        refine gt_X6_31 C dX6_best_54 ?_
        refine ww_istore C dX6_best_57 (lv' := [(5, .int (iZ (M 30 8))), (4, .int (iZ 13)), (3, .int (iZ 27)), (0, .ref (wa w 30)), (1, .int (iZ 1)), (2, .int (iZ 2))]) (by rw [hkL]; decide) rfl ?_
        refine ww_iconst C dX6_best_59 ?_
        refine ww_istore C dX6_best_60 (lv' := [(6, .int (iZ 0)), (5, .int (iZ (M 30 8))), (4, .int (iZ 13)), (3, .int (iZ 27)), (0, .ref (wa w 30)), (1, .int (iZ 1)), (2, .int (iZ 2))]) (by rw [hkL]; decide) rfl ?_
        have L_62 : ∀ (fuel : Nat) (k1 : Nat) (hk1 : k1 ≤ 9), 9 - k1 < fuel → WW w k 62 [(0, .ref (wa w 30)), (1, .int (iZ 1)), (2, .int (iZ 2)), (3, .int (iZ 27)), (4, .int (iZ 13)), (5, .int (iZ (M 30 8))), (6, .int (iZ ((k1 : Nat) : Int)))] [] (ups M 42 (cpy k1 (M 37) (M 42))) := by
          intro fuel
          induction fuel with
          | zero => intro k1 hk1 hf_62; exact absurd hf_62 (Nat.not_lt_zero _)
          | succ fuel ih_62 =>
            intro k1 hk1 hf_62
            refine ww_iload C dX6_best_62 6 rfl ?_
            refine ww_bipush C dX6_best_64 (by decide) ?_
            refine ww_icmp_ge C 89 dX6_best_66 (by decide) (by omega) (by omega) (fun c_66 => ?_) (fun c_66 => ?_)
            · refine ww_mem (M1 := ups M 42 (cpy 9 (M 37) (M 42))) (by rw [show k1 = 9 by omega]) ?_
              refine ww_aload_n C dX6_best_89 0 rfl ?_
              refine ww_iconst C dX6_best_90 ?_
              refine pt_X6_31 C dX6_best_91 ?_
              refine ww_mem (M1 := ups (ups M 42 (cpy 9 (M 37) (M 42))) 30 (up1 (M 30) 8 1)) rfl ?_
              refine ww_iconst C dX6_best_94 ?_
              refine ww_istore C dX6_best_95 (lv' := [(6, .int (iZ (-1))), (0, .ref (wa w 30)), (1, .int (iZ 1)), (2, .int (iZ 2)), (3, .int (iZ 27)), (4, .int (iZ 13)), (5, .int (iZ (M 30 8)))]) (by rw [hkL]; decide) rfl ?_
              refine ww_iconst C dX6_best_97 ?_
              refine ww_istore C dX6_best_98 (lv' := [(7, .int (iZ 0)), (6, .int (iZ (-1))), (0, .ref (wa w 30)), (1, .int (iZ 1)), (2, .int (iZ 2)), (3, .int (iZ 27)), (4, .int (iZ 13)), (5, .int (iZ (M 30 8)))]) (by rw [hkL]; decide) rfl ?_
              refine ww_aload_n C dX6_best_100 2 rfl ?_
              refine ww_iconst C dX6_best_101 ?_
              refine ww_iload C dX6_best_102 6 rfl ?_
              refine ww_iload_n C dX6_best_104 3 rfl ?_
              refine ww_callVV C (As := [.int (iZ 2), .int (iZ 13), .int (iZ 1)]) 30 (by decide) (ct_X6_numbers w (ups (ups M 42 (cpy 9 (M 37) (M 42))) 30 (up1 (M 30) 8 1)) 2 13 1 (show 2 < 3 from by decide) (show 1 = 1 ∨ 1 = 2 from hb12) (show 13 < 125 from by omega)) mf_X6_numbers ml_X6_133 rfl rfl (by decide) rfl rfl (Nat.le_of_ble_eq_true rfl) dX6_best_105 (fun M_105 hp_105 => ?_)
              rw [hp_105]
              refine ww_mem (M1 := ups (ups (ups M 42 (cpy 9 (M 37) (M 42))) 30 (up1 (M 30) 8 1)) 37 (up1 (up1 (up1 (M 37) (3 * 2) (spA 1 13)) (3 * 2 + 1) (spB 1 13)) (3 * 2 + 2) (spC 1 13))) rfl ?_
              refine ww_mem (M1 := ups (ups (ups M 42 (cpy 9 (M 37) (M 42))) 30 (up1 (M 30) 8 1)) 37 (up1 (up1 (up1 (M 37) 6 (spA 1 13)) 7 (spB 1 13)) 8 (spC 1 13))) (rfl) ?_
              refine ww_iconst C dX6_best_108 ?_
              refine ww_istore C dX6_best_109 (lv' := [(8, .int (iZ 0)), (7, .int (iZ 0)), (6, .int (iZ (-1))), (0, .ref (wa w 30)), (1, .int (iZ 1)), (2, .int (iZ 2)), (3, .int (iZ 27)), (4, .int (iZ 13)), (5, .int (iZ (M 30 8)))]) (by rw [hkL]; decide) rfl ?_
              have L_111 : ∀ (fuel : Nat) (t : Nat) (le fe : Int) (Mt : Mem) (ht : t ≤ 27) (hfr : frR (ups (ups M 42 (cpy 9 (M 37) (M 42))) 30 (up1 (M 30) 8 1)) Mt) (h2 : NuOk (Mt 37)) (h9 : ∀ q : Nat, 9 ≤ q → Mt 37 q = 0) (h40t : ∀ j : Nat, 4096 ≤ j → Mt 40 j = 0) (hrs : RS (M 31) (M 32) nv 1 2 (ix 1 t 0 0) le fe (Mt 43)), 27 - t < fuel → WW w k 111 [(0, .ref (wa w 30)), (1, .int (iZ 1)), (2, .int (iZ 2)), (3, .int (iZ 27)), (4, .int (iZ 13)), (5, .int (iZ (M 30 8))), (6, .int (iZ le)), (7, .int (iZ fe)), (8, .int (iZ ((t : Nat) : Int)))] [] Mt := by
                intro fuel
                induction fuel with
                | zero => intro t le fe Mt ht hfr h2 h9 h40t hrs hf_111; exact absurd hf_111 (Nat.not_lt_zero _)
                | succ fuel ih_111 =>
                  intro t le fe Mt ht hfr h2 h9 h40t hrs hf_111
                  have q31 : Mt 31 = M 31 := hfr 31 (by decide) (by decide) (by decide)
                  have q32 : Mt 32 = M 32 := hfr 32 (by decide) (by decide) (by decide)
                  have q30 : Mt 30 = up1 (M 30) 8 1 := hfr 30 (by decide) (by decide) (by decide)
                  have q301 : Mt 30 1 = (nv : Int) := by rw [q30]; exact hnv
                  have q308 : Mt 30 8 = 1 := by rw [q30]; rfl
                  have hle := hrs.2.1
                  have hfe := hrs.2.2
                  refine ww_iload C dX6_best_111 8 rfl ?_
                  refine ww_iload_n C dX6_best_113 3 rfl ?_
                  refine ww_icmp_ge C 325 dX6_best_114 (by decide) (by omega) (by omega) (fun c_114 => ?_) (fun c_114 => ?_)
                  · have hrsN : RS (M 31) (M 32) nv 1 2 (ix 1 (vc 1) 0 0) le fe (Mt 43) := by rw [show t = vc 1 by omega] at hrs; exact hrs
                    refine ww_aload_n C dX6_best_325 0 rfl ?_
                    refine ww_iload C dX6_best_326 5 rfl ?_
                    refine pt_X6_31 C dX6_best_328 ?_
                    refine ww_iconst C dX6_best_331 ?_
                    refine ww_istore C dX6_best_332 (lv' := [(8, .int (iZ 0)), (0, .ref (wa w 30)), (1, .int (iZ 1)), (2, .int (iZ 2)), (3, .int (iZ 27)), (4, .int (iZ 13)), (5, .int (iZ (M 30 8))), (6, .int (iZ le)), (7, .int (iZ fe))]) (by rw [hkL]; decide) rfl ?_
                    have L_334 : ∀ (fuel : Nat) (k3 : Nat) (hk3 : k3 ≤ 9), 9 - k3 < fuel → WW w k 334 [(0, .ref (wa w 30)), (6, .int (iZ le)), (8, .int (iZ ((k3 : Nat) : Int)))] [] (ups (ups Mt 30 (up1 (Mt 30) 8 (M 30 8))) 37 (cpy k3 (if le < 0 then Mt 42 else Mt 43) (Mt 37))) := by
                      intro fuel
                      induction fuel with
                      | zero => intro k3 hk3 hf_334; exact absurd hf_334 (Nat.not_lt_zero _)
                      | succ fuel ih_334 =>
                        intro k3 hk3 hf_334
                        refine ww_iload C dX6_best_334 2 rfl ?_
                        refine ww_bipush C dX6_best_336 (by decide) ?_
                        refine ww_icmp_ge C 376 dX6_best_338 (by decide) (by omega) (by omega) (fun c_338 => ?_) (fun c_338 => ?_)
                        · refine ww_iload C dX6_best_376 1 rfl ?_
                          refine ww_if_ge C 383 dX6_best_378 (by decide) (by omega) (fun c_378 => ?_) (fun c_378 => ?_)
                          · obtain ⟨c9, hc1, hc2⟩ := RS_yes hrsN c_378
                            have hrow := mbs_row (Mt := Mt) (show k3 = 9 by omega) c_378 hc2 h9
                            refine ww_mem (M1 := ups (ups Mt 30 (up1 (Mt 30) 8 (M 30 8))) 37 (nuO 1 c9)) (by rw [hrow]) ?_
                            refine ww_aload_n C dX6_best_383 0 rfl ?_
                            refine ww_iconst C dX6_best_384 ?_
                            refine pt_X6_67 C (by decide) dX6_best_385 ?_
                            refine ww_mem (M1 := ups (ups Mt 30 (up1 (up1 (Mt 30) 8 (M 30 8)) 9 0)) 37 (nuO 1 c9)) (((ups_comm (by decide)).trans (congrArg (fun X9 => ups X9 37 (nuO 1 c9)) ups_ups))) ?_
                            refine ww_aload_n C dX6_best_388 0 rfl ?_
                            refine ww_callV C (As := []) 30 (by decide) (ct_X6_beats w (ups (ups Mt 30 (up1 (up1 (Mt 30) 8 (M 30 8)) 9 0)) 37 (nuO 1 c9)) (show SzOk ((Mt 31)) from by rw [q31]; exact hs) (show NuOk ((nuO 1 c9)) from Nu2_3 (nuO_2 hb12 hc1.1)) (show 1 ≤ (up1 (up1 (Mt 30) 8 (M 30 8)) 9 0) 8 ∧ (up1 (up1 (Mt 30) 8 (M 30 8)) 9 0) 8 ≤ 8 from hf)) mf_X6_beats ml_X6_121 rfl rfl (by decide) rfl rfl (Nat.le_of_ble_eq_true rfl) dX6_best_389 (fun z_389 M_389 hp_389 => ?_)
                            obtain ⟨hbe_389, hm_389⟩ := hp_389
                            refine ww_mem (M1 := ups (ups Mt 30 (up1 (up1 (Mt 30) 8 (M 30 8)) 9 0)) 37 (nuO 1 c9)) (hm_389) ?_
                            exact RT _ _ _ _ dX6_best_392 (mbs_yes hfr hc1 h40t hbe_389)
                          · refine ww_iconst C dX6_best_381 ?_
                            exact RT _ _ _ _ dX6_best_382 (mbs_no (by omega) hfr hrsN c_378 h9 h37 h40t)
                        · refine ww_aload_n C dX6_best_341 0 rfl ?_
                          refine gt_X6_28 C dX6_best_342 ?_
                          refine ww_iload C dX6_best_345 2 rfl ?_
                          refine ww_iload C dX6_best_347 1 rfl ?_
                          refine ww_if_ge C 362 dX6_best_349 (by decide) (by omega) (fun c_349 => ?_) (fun c_349 => ?_)
                          · refine ww_aload_n C dX6_best_362 0 rfl ?_
                            refine gt_X6_51 C dX6_best_363 ?_
                            refine ww_iload C dX6_best_366 2 rfl ?_
                            refine al_43 C k3 (z := (if le < 0 then Mt 42 else Mt 43) k3) rfl (by omega) (show Mt 43 k3 = _ from by rw [if_neg (by omega)]) dX6_best_368 ?_
                            refine as_37 C k3 rfl (by omega) dX6_best_369 ?_
                            refine ww_mem (M1 := ups (ups Mt 30 (up1 (Mt 30) 8 (M 30 8))) 37 (cpy (k3 + 1) (if le < 0 then Mt 42 else Mt 43) (Mt 37))) (by rw [ups_ups]; show ups (ups Mt 30 (up1 (Mt 30) 8 (M 30 8))) 37 (up1 (cpy k3 (if le < 0 then Mt 42 else Mt 43) (Mt 37)) k3 ((if le < 0 then Mt 42 else Mt 43) k3)) = _; rw [cpy_s]) ?_
                            refine ww_iinc2 C dX6_best_370 2 rfl (b := ((k3 + 1 : Nat) : Int)) (by omega) (lv' := [(8, .int (iZ ((k3 + 1 : Nat) : Int))), (0, .ref (wa w 30)), (6, .int (iZ le))]) (by rw [hkL]; decide) rfl ?_
                            refine ww_goto C 334 dX6_best_373 (by decide) ?_
                            refine ww_sub [1, 2, 0] rfl ?_
                            exact ih_334 (k3 + 1) (by omega) (by omega)
                          · refine ww_aload_n C dX6_best_352 0 rfl ?_
                            refine gt_X6_48 C dX6_best_353 ?_
                            refine ww_iload C dX6_best_356 2 rfl ?_
                            refine al_42 C k3 (z := (if le < 0 then Mt 42 else Mt 43) k3) rfl (by omega) (show Mt 42 k3 = _ from by rw [if_pos (by omega)]) dX6_best_358 ?_
                            refine ww_goto C 369 dX6_best_359 (by decide) ?_
                            refine as_37 C k3 rfl (by omega) dX6_best_369 ?_
                            refine ww_mem (M1 := ups (ups Mt 30 (up1 (Mt 30) 8 (M 30 8))) 37 (cpy (k3 + 1) (if le < 0 then Mt 42 else Mt 43) (Mt 37))) (by rw [ups_ups]; show ups (ups Mt 30 (up1 (Mt 30) 8 (M 30 8))) 37 (up1 (cpy k3 (if le < 0 then Mt 42 else Mt 43) (Mt 37)) k3 ((if le < 0 then Mt 42 else Mt 43) k3)) = _; rw [cpy_s]) ?_
                            refine ww_iinc2 C dX6_best_370 2 rfl (b := ((k3 + 1 : Nat) : Int)) (by omega) (lv' := [(8, .int (iZ ((k3 + 1 : Nat) : Int))), (0, .ref (wa w 30)), (6, .int (iZ le))]) (by rw [hkL]; decide) rfl ?_
                            refine ww_goto C 334 dX6_best_373 (by decide) ?_
                            refine ww_sub [1, 2, 0] rfl ?_
                            exact ih_334 (k3 + 1) (by omega) (by omega)
                    refine ww_sub [1, 7, 0] rfl ?_
                    refine ww_mem (M1 := ups (ups Mt 30 (up1 (Mt 30) 8 (M 30 8))) 37 (cpy 0 (if le < 0 then Mt 42 else Mt 43) (Mt 37))) (by rw [cpy_0]; exact (ups_id (M := ups Mt 30 (up1 (Mt 30) 8 (M 30 8))) (h := 37)).symm) ?_
                    exact L_334 _ 0 (by omega) (Nat.lt_succ_self _)
                  · refine ww_aload_n C dX6_best_117 0 rfl ?_
                    refine ww_iconst C dX6_best_118 ?_
                    refine ww_iload C dX6_best_119 8 rfl ?_
                    refine ww_iload_n C dX6_best_121 1 rfl ?_
                    refine ww_callVV C (As := [.int (iZ 0), .int (iZ ((t : Nat) : Int)), .int (iZ 1)]) 30 (by decide) (ct_X6_numbers w Mt 0 t 1 (by decide) (hb12) (by omega)) mf_X6_numbers ml_X6_133 rfl rfl (by decide) rfl rfl (Nat.le_of_ble_eq_true rfl) dX6_best_122 (fun M_122 hp_122 => ?_)
                    rw [hp_122]
                    refine ww_mem (M1 := ups Mt 37 (up1 (up1 (up1 (Mt 37) (3 * 0) (spA 1 t)) (3 * 0 + 1) (spB 1 t)) (3 * 0 + 2) (spC 1 t))) rfl ?_
                    refine ww_mem (M1 := ups Mt 37 (up1 (up1 (up1 (Mt 37) 0 (spA 1 t)) 1 (spB 1 t)) 2 (spC 1 t))) (rfl) ?_
                    refine ww_aload_n C dX6_best_125 0 rfl ?_
                    refine ww_callV C (As := []) 30 (by decide) (ct_X6_wrongDelay w (ups Mt 37 (up1 (up1 (up1 (Mt 37) 0 (spA 1 t)) 1 (spB 1 t)) 2 (spC 1 t))) nv (show (Mt 30) 1 = (nv : Int) from q301) (show nv ≤ 4 from hn4) (show SzOk ((Mt 31)) from by rw [q31]; exact hs) (show StOk ((Mt 32)) from by rw [q32]; exact hst) (show NuOk ((up1 (up1 (up1 (Mt 37) 0 (spA 1 t)) 1 (spB 1 t)) 2 (spC 1 t))) from nu3_up (q := 0) hb12 (by omega) h2)) mf_X6_wrongDelay ml_X6_95 rfl rfl (by decide) rfl rfl (Nat.le_of_ble_eq_true rfl) dX6_best_126 (fun z_126 M_126 hp_126 => ?_)
                    obtain ⟨hf_126, hm_126⟩ := hp_126
                    have hf_126 : isFst (earP (up1 (up1 (up1 (Mt 37) 0 (spA 1 t)) 1 (spB 1 t)) 2 (spC 1 t)) (Mt 31) (Mt 32)) nv z_126 := hf_126
                    rw [q31, q32] at hf_126
                    have r126 := isFst_R (by omega) hf_126
                    refine ww_mem (M1 := ups Mt 37 (up1 (up1 (up1 (Mt 37) 0 (spA 1 t)) 1 (spB 1 t)) 2 (spC 1 t))) (hm_126) ?_
                    refine ww_if_lt C 135 dX6_best_129 (by decide) (by omega) (fun c_129 => ?_) (fun c_129 => ?_)
                    · refine ww_iconst C dX6_best_135 ?_
                      refine ww_istore C dX6_best_136 (lv' := [(9, .int (iZ 0)), (0, .ref (wa w 30)), (1, .int (iZ 1)), (2, .int (iZ 2)), (3, .int (iZ 27)), (4, .int (iZ 13)), (5, .int (iZ (M 30 8))), (6, .int (iZ le)), (7, .int (iZ fe)), (8, .int (iZ ((t : Nat) : Int)))]) (by rw [hkL]; decide) rfl ?_
                      have L_138 : ∀ (fuel : Nat) (s : Nat) (le fe : Int) (Mt : Mem) (hsv : s ≤ 27) (hfr : frR (ups (ups M 42 (cpy 9 (M 37) (M 42))) 30 (up1 (M 30) 8 1)) Mt) (h2 : NuOk (Mt 37)) (h9 : ∀ q : Nat, 9 ≤ q → Mt 37 q = 0) (h40t : ∀ j : Nat, 4096 ≤ j → Mt 40 j = 0) (hrs : RS (M 31) (M 32) nv 1 2 (ix 1 t s 0) le fe (Mt 43)) (ht0 : Mt 37 0 = spA 1 t ∧ Mt 37 1 = spB 1 t ∧ Mt 37 2 = spC 1 t), 27 - s < fuel → WW w k 138 [(0, .ref (wa w 30)), (1, .int (iZ 1)), (2, .int (iZ 2)), (3, .int (iZ 27)), (4, .int (iZ 13)), (5, .int (iZ (M 30 8))), (6, .int (iZ le)), (7, .int (iZ fe)), (8, .int (iZ ((t : Nat) : Int))), (9, .int (iZ ((s : Nat) : Int)))] [] Mt := by
                        intro fuel
                        induction fuel with
                        | zero => intro s le fe Mt hsv hfr h2 h9 h40t hrs ht0 hf_138; exact absurd hf_138 (Nat.not_lt_zero _)
                        | succ fuel ih_138 =>
                          intro s le fe Mt hsv hfr h2 h9 h40t hrs ht0 hf_138
                          have q31 : Mt 31 = M 31 := hfr 31 (by decide) (by decide) (by decide)
                          have q32 : Mt 32 = M 32 := hfr 32 (by decide) (by decide) (by decide)
                          have q30 : Mt 30 = up1 (M 30) 8 1 := hfr 30 (by decide) (by decide) (by decide)
                          have q301 : Mt 30 1 = (nv : Int) := by rw [q30]; exact hnv
                          have q308 : Mt 30 8 = 1 := by rw [q30]; rfl
                          have hle := hrs.2.1
                          have hfe := hrs.2.2
                          refine ww_iload C dX6_best_138 9 rfl ?_
                          refine ww_iload_n C dX6_best_140 3 rfl ?_
                          refine ww_icmp_ge C 319 dX6_best_141 (by decide) (by omega) (by omega) (fun c_141 => ?_) (fun c_141 => ?_)
                          · refine ww_iinc2 C dX6_best_319 8 rfl (b := ((t + 1 : Nat) : Int)) (by omega) (lv' := [(8, .int (iZ ((t + 1 : Nat) : Int))), (0, .ref (wa w 30)), (1, .int (iZ 1)), (2, .int (iZ 2)), (3, .int (iZ 27)), (4, .int (iZ 13)), (5, .int (iZ (M 30 8))), (6, .int (iZ le)), (7, .int (iZ fe)), (9, .int (iZ ((s : Nat) : Int)))]) (by rw [hkL]; decide) rfl ?_
                            refine ww_goto C 111 dX6_best_322 (by decide) ?_
                            refine ww_sub [1, 2, 3, 4, 5, 6, 7, 8, 0] rfl ?_
                            exact ih_111 (t + 1) le fe Mt (by omega) (hfr) (h2) (h9) (h40t) (by have e9 : ix 1 t 27 0 = ix 1 (t + 1) 0 0 := (by show (t * 27 + 27) * 27 + 0 = ((t + 1) * 27 + 0) * 27 + 0; omega); rw [← e9, ← show s = 27 by omega]; exact hrs) (by omega)
                          · refine ww_iload C dX6_best_144 9 rfl ?_
                            refine ww_iload C dX6_best_146 4 rfl ?_
                            refine ww_icmp_ne C 154 dX6_best_148 (by decide) (by omega) (by omega) (fun c_148 => ?_) (fun c_148 => ?_)
                            · refine ww_aload_n C dX6_best_154 0 rfl ?_
                              refine ww_iconst C dX6_best_155 ?_
                              refine ww_iload C dX6_best_156 9 rfl ?_
                              refine ww_iload_n C dX6_best_158 1 rfl ?_
                              refine ww_callVV C (As := [.int (iZ 1), .int (iZ ((s : Nat) : Int)), .int (iZ 1)]) 30 (by decide) (ct_X6_numbers w Mt 1 s 1 (by decide) (hb12) (by omega)) mf_X6_numbers ml_X6_133 rfl rfl (by decide) rfl rfl (Nat.le_of_ble_eq_true rfl) dX6_best_159 (fun M_159 hp_159 => ?_)
                              rw [hp_159]
                              refine ww_mem (M1 := ups Mt 37 (up1 (up1 (up1 (Mt 37) (3 * 1) (spA 1 s)) (3 * 1 + 1) (spB 1 s)) (3 * 1 + 2) (spC 1 s))) rfl ?_
                              refine ww_mem (M1 := ups Mt 37 (up1 (up1 (up1 (Mt 37) 3 (spA 1 s)) 4 (spB 1 s)) 5 (spC 1 s))) (rfl) ?_
                              refine ww_iload_n C dX6_best_162 2 rfl ?_
                              refine ww_iconst C dX6_best_163 ?_
                              refine ww_icmp_ne C 172 dX6_best_164 (by decide) (by omega) (by omega) (fun c_164 => ?_) (fun c_164 => ?_)
                              · refine ww_iconst C dX6_best_172 ?_
                                refine ww_istore C dX6_best_173 (lv' := [(10, .int (iZ 0)), (0, .ref (wa w 30)), (1, .int (iZ 1)), (2, .int (iZ 2)), (3, .int (iZ 27)), (4, .int (iZ 13)), (5, .int (iZ (M 30 8))), (6, .int (iZ le)), (7, .int (iZ fe)), (8, .int (iZ ((t : Nat) : Int))), (9, .int (iZ ((s : Nat) : Int)))]) (by rw [hkL]; decide) rfl ?_
                                have L_175 : ∀ (fuel : Nat) (r : Nat) (le fe : Int) (Mt : Mem) (hrv : 0 ≤ r ∧ r ≤ 27) (hfr : frR (ups (ups M 42 (cpy 9 (M 37) (M 42))) 30 (up1 (M 30) 8 1)) Mt) (h2 : NuOk (Mt 37)) (h9 : ∀ q : Nat, 9 ≤ q → Mt 37 q = 0) (h40t : ∀ j : Nat, 4096 ≤ j → Mt 40 j = 0) (hrs : RS (M 31) (M 32) nv 1 2 (ix 1 t s r) le fe (Mt 43)) (ht0 : Mt 37 0 = spA 1 t ∧ Mt 37 1 = spB 1 t ∧ Mt 37 2 = spC 1 t) (hs0 : Mt 37 3 = spA 1 s ∧ Mt 37 4 = spB 1 s ∧ Mt 37 5 = spC 1 s), 27 - r < fuel → WW w k 175 [(0, .ref (wa w 30)), (1, .int (iZ 1)), (2, .int (iZ 2)), (3, .int (iZ 27)), (4, .int (iZ 13)), (5, .int (iZ (M 30 8))), (6, .int (iZ le)), (7, .int (iZ fe)), (8, .int (iZ ((t : Nat) : Int))), (9, .int (iZ ((s : Nat) : Int))), (10, .int (iZ ((r : Nat) : Int)))] [] Mt := by
                                  intro fuel
                                  induction fuel with
                                  | zero => intro r le fe Mt hrv hfr h2 h9 h40t hrs ht0 hs0 hf_175; exact absurd hf_175 (Nat.not_lt_zero _)
                                  | succ fuel ih_175 =>
                                    intro r le fe Mt hrv hfr h2 h9 h40t hrs ht0 hs0 hf_175
                                    have q31 : Mt 31 = M 31 := hfr 31 (by decide) (by decide) (by decide)
                                    have q32 : Mt 32 = M 32 := hfr 32 (by decide) (by decide) (by decide)
                                    have q30 : Mt 30 = up1 (M 30) 8 1 := hfr 30 (by decide) (by decide) (by decide)
                                    have q301 : Mt 30 1 = (nv : Int) := by rw [q30]; exact hnv
                                    have q308 : Mt 30 8 = 1 := by rw [q30]; rfl
                                    have hle := hrs.2.1
                                    have hfe := hrs.2.2
                                    refine ww_iload C dX6_best_175 10 rfl ?_
                                    refine ww_iload_n C dX6_best_177 2 rfl ?_
                                    refine ww_iconst C dX6_best_178 ?_
                                    refine ww_icmp_ne C 189 dX6_best_179 (by decide) (by omega) (by omega) (fun c_179 => ?_) (fun c_179 => ?_)
                                    · refine ww_iload_n C dX6_best_189 3 rfl ?_
                                      refine ww_icmp_ge C 313 dX6_best_190 (by decide) (by omega) (by omega) (fun c_190 => ?_) (fun c_190 => ?_)
                                      · refine ww_iinc2 C dX6_best_313 9 rfl (b := ((s + 1 : Nat) : Int)) (by omega) (lv' := [(9, .int (iZ ((s + 1 : Nat) : Int))), (0, .ref (wa w 30)), (1, .int (iZ 1)), (2, .int (iZ 2)), (3, .int (iZ 27)), (4, .int (iZ 13)), (5, .int (iZ (M 30 8))), (6, .int (iZ le)), (7, .int (iZ fe)), (8, .int (iZ ((t : Nat) : Int))), (10, .int (iZ ((r : Nat) : Int)))]) (by rw [hkL]; decide) rfl ?_
                                        refine ww_goto C 138 dX6_best_316 (by decide) ?_
                                        refine ww_sub [1, 2, 3, 4, 5, 6, 7, 8, 9, 0] rfl ?_
                                        exact ih_138 (s + 1) le fe Mt (by omega) (hfr) (h2) (h9) (h40t) (RS_close hrs hb12 (by omega) (by omega) (by omega)) (ht0) (by omega)
                                      · refine ww_aload_n C dX6_best_193 0 rfl ?_
                                        refine ww_iconst C dX6_best_194 ?_
                                        refine ww_iload C dX6_best_195 10 rfl ?_
                                        refine ww_iload_n C dX6_best_197 1 rfl ?_
                                        refine ww_callVV C (As := [.int (iZ 2), .int (iZ ((r : Nat) : Int)), .int (iZ 1)]) 30 (by decide) (ct_X6_numbers w Mt 2 r 1 (by decide) (hb12) (by omega)) mf_X6_numbers ml_X6_133 rfl rfl (by decide) rfl rfl (Nat.le_of_ble_eq_true rfl) dX6_best_198 (fun M_198 hp_198 => ?_)
                                        rw [hp_198]
                                        refine ww_mem (M1 := ups Mt 37 (up1 (up1 (up1 (Mt 37) (3 * 2) (spA 1 r)) (3 * 2 + 1) (spB 1 r)) (3 * 2 + 2) (spC 1 r))) rfl ?_
                                        refine ww_mem (M1 := ups Mt 37 (nuC 1 t s r)) (congrArg (ups Mt 37) (row_up h9 ht0 hs0)) ?_
                                        refine ww_iload_n C dX6_best_201 2 rfl ?_
                                        refine ww_iconst C dX6_best_202 ?_
                                        refine ww_icmp_ne C 213 dX6_best_203 (by decide) (by omega) (by omega) (fun c_203 => ?_) (fun c_203 => ?_)
                                        · exact absurd c_203 (by decide)
                                        · refine ww_iload C dX6_best_206 10 rfl ?_
                                          refine ww_iload C dX6_best_208 4 rfl ?_
                                          refine ww_icmp_eq C 307 dX6_best_210 (by decide) (by omega) (by omega) (fun c_210 => ?_) (fun c_210 => ?_)
                                          · refine ww_iinc2 C dX6_best_307 10 rfl (b := ((r + 1 : Nat) : Int)) (by omega) (lv' := [(10, .int (iZ ((r + 1 : Nat) : Int))), (0, .ref (wa w 30)), (1, .int (iZ 1)), (2, .int (iZ 2)), (3, .int (iZ 27)), (4, .int (iZ 13)), (5, .int (iZ (M 30 8))), (6, .int (iZ le)), (7, .int (iZ fe)), (8, .int (iZ ((t : Nat) : Int))), (9, .int (iZ ((s : Nat) : Int)))]) (by rw [hkL]; decide) rfl ?_
                                            refine ww_goto C 175 dX6_best_310 (by decide) ?_
                                            refine ww_sub [1, 2, 3, 4, 5, 6, 7, 8, 9, 10, 0] rfl ?_
                                            exact ih_175 (r + 1) le fe (ups Mt 37 (nuC 1 t s r)) (by omega) (frR_37 hfr) (Nu2_3 (nuC_2 hb12 (by omega) (by omega) (by omega))) (fun q hq => nuC_9 hq) (h40t) (RS_one hrs (fun a9 => by first | (exfalso; exact hnr (hacc.mp a9)) | (rw [hbc.1]; omega) | (exfalso; exact a9.2.2.1 rfl (by rw [(ix_d hb12 (by omega) (by omega)).2.2]; omega)))) (⟨rfl, rfl, rfl⟩) (⟨rfl, rfl, rfl⟩) (by omega)
                                          · have hacc := acc_ix (sz := M 31) (st := M 32) (nv := nv) (ln := 2) (t := t) (s := s) (r := r) hb12 (by omega) (by omega) (by omega) (by omega) (by omega)
                                            have hbc := bt_ix (sz := M 31) (t := t) (s := s) (r := r) hb12 (by omega) (by omega)
                                            have hn2 := nuC_2 (t := t) (s := s) (r := r) hb12 (by omega) (by omega) (by omega)
                                            refine ww_aload_n C dX6_best_213 0 rfl ?_
                                            refine ww_callV C (As := []) 30 (by decide) (ct_X6_isRight w (ups Mt 37 (nuC 1 t s r)) nv (show (Mt 30) 1 = (nv : Int) from q301) (show nv ≤ 4 from hn4) (show SzOk ((Mt 31)) from by rw [q31]; exact hs) (show StOk ((Mt 32)) from by rw [q32]; exact hst) (show NuOk ((nuC 1 t s r)) from Nu2_3 (nuC_2 hb12 (by omega) (by omega) (by omega)))) mf_X6_isRight ml_X6_136 rfl rfl (by decide) rfl rfl (Nat.le_of_ble_eq_true rfl) dX6_best_214 (fun z_214 M_214 hp_214 => ?_)
                                            obtain ⟨hz_214, hri_214, hm_214⟩ := hp_214
                                            have hri_214 : z_214 = 1 ↔ rigP (nuC 1 t s r) (Mt 31) (Mt 32) nv := hri_214
                                            rw [q31, q32] at hri_214
                                            refine ww_mem (M1 := ups Mt 37 (nuC 1 t s r)) (hm_214) ?_
                                            refine ww_if_ne C 223 dX6_best_217 (by decide) (by omega) (fun c_217 => ?_) (fun c_217 => ?_)
                                            · have hrig := hri_214.mp (by omega)
                                              refine ww_aload_n C dX6_best_223 0 rfl ?_
                                              refine ww_callV C (As := []) 30 (by decide) (ct_X6_beats w (ups Mt 37 (nuC 1 t s r)) (show SzOk ((Mt 31)) from by rw [q31]; exact hs) (show NuOk ((nuC 1 t s r)) from Nu2_3 (nuC_2 hb12 (by omega) (by omega) (by omega))) (show 1 ≤ (Mt 30) 8 ∧ (Mt 30) 8 ≤ 8 from by rw [q308]; omega)) mf_X6_beats ml_X6_121 rfl rfl (by decide) rfl rfl (Nat.le_of_ble_eq_true rfl) dX6_best_224 (fun z_224 M_224 hp_224 => ?_)
                                              obtain ⟨hbe_224, hm_224⟩ := hp_224
                                              have hbe_224 : beaR (Mt 31) (beatZ (nuC 1 t s r) (Mt 31) (Mt 30 8)) 512 z_224 := hbe_224
                                              rw [q31, q308] at hbe_224
                                              have hzb := beaR_un hbe_224 (bea_bu (Nu2_3 hn2) hs)
                                              have hbub := buZ_b (Nu2_3 hn2) hs
                                              refine ww_mem (M1 := ups Mt 37 (nuC 1 t s r)) (hm_224) ?_
                                              refine ww_top (b := buZ (nuC 1 t s r) (M 31)) (hzb) ?_
                                              refine ww_istore C dX6_best_227 (lv' := [(11, .int (iZ (buZ (nuC 1 t s r) (M 31)))), (0, .ref (wa w 30)), (1, .int (iZ 1)), (2, .int (iZ 2)), (3, .int (iZ 27)), (4, .int (iZ 13)), (5, .int (iZ (M 30 8))), (6, .int (iZ le)), (7, .int (iZ fe)), (8, .int (iZ ((t : Nat) : Int))), (9, .int (iZ ((s : Nat) : Int))), (10, .int (iZ ((r : Nat) : Int)))]) (by rw [hkL]; decide) rfl ?_
                                              refine ww_iload C dX6_best_229 7 rfl ?_
                                              refine ww_if_lt C 244 dX6_best_231 (by decide) (by omega) (fun c_231 => ?_) (fun c_231 => ?_)
                                              · refine ww_aload_n C dX6_best_244 1 rfl ?_
                                                refine ww_callV C (As := []) 30 (by decide) (ct_X6_cells w (ups Mt 37 (nuC 1 t s r)) (show SzOk ((Mt 31)) from by rw [q31]; exact hs) (show NuOk ((nuC 1 t s r)) from Nu2_3 (nuC_2 hb12 (by omega) (by omega) (by omega))) (show 1 ≤ (Mt 30) 8 ∧ (Mt 30) 8 ≤ 8 from by rw [q308]; omega) (show ∀ j : Nat, 4096 ≤ j → (Mt 40) j = 0 from h40t)) mf_X6_cells ml_X6_124 rfl rfl (by decide) rfl rfl (Nat.le_of_ble_eq_true rfl) dX6_best_245 (fun z_245 M_245 hp_245 => ?_)
                                                obtain ⟨hz_245, ic_245, hic_245, hm_245⟩ := hp_245
                                                have hz_245 : z_245 = difK (Mt 31) (keyZ (nuC 1 t s r) (Mt 31) (Mt 30 8)) 512 := hz_245
                                                rw [q31, q308] at hz_245
                                                have hdb := dif_b (M 31) (keyZ (nuC 1 t s r) (M 31) 1) 512
                                                refine ww_mem (M1 := ups (ups Mt 37 (nuC 1 t s r)) 40 ic_245) (hm_245) ?_
                                                refine ww_top (b := difK (M 31) (keyZ (nuC 1 t s r) (M 31) 1) 512) (hz_245) ?_
                                                refine ww_istore C dX6_best_248 (lv' := [(12, .int (iZ (difK (M 31) (keyZ (nuC 1 t s r) (M 31) 1) 512))), (11, .int (iZ (buZ (nuC 1 t s r) (M 31)))), (0, .ref (wa w 30)), (1, .int (iZ 1)), (2, .int (iZ 2)), (3, .int (iZ 27)), (4, .int (iZ 13)), (5, .int (iZ (M 30 8))), (6, .int (iZ le)), (7, .int (iZ fe)), (8, .int (iZ ((t : Nat) : Int))), (9, .int (iZ ((s : Nat) : Int))), (10, .int (iZ ((r : Nat) : Int)))]) (by rw [hkL]; decide) rfl ?_
                                                refine ww_iload C dX6_best_250 8 rfl ?_
                                                refine ww_if_lt C 269 dX6_best_252 (by decide) (by omega) (fun c_252 => ?_) (fun c_252 => ?_)
                                                · refine ww_iload C dX6_best_269 1 rfl ?_
                                                  refine ww_istore C dX6_best_271 (lv' := [(6, .int (iZ (buZ (nuC 1 t s r) (M 31)))), (12, .int (iZ (difK (M 31) (keyZ (nuC 1 t s r) (M 31) 1) 512))), (11, .int (iZ (buZ (nuC 1 t s r) (M 31)))), (0, .ref (wa w 30)), (1, .int (iZ 1)), (2, .int (iZ 2)), (3, .int (iZ 27)), (4, .int (iZ 13)), (5, .int (iZ (M 30 8))), (7, .int (iZ fe)), (8, .int (iZ ((t : Nat) : Int))), (9, .int (iZ ((s : Nat) : Int))), (10, .int (iZ ((r : Nat) : Int)))]) (by rw [hkL]; decide) rfl ?_
                                                  refine ww_iload C dX6_best_273 1 rfl ?_
                                                  refine ww_istore C dX6_best_275 (lv' := [(7, .int (iZ (difK (M 31) (keyZ (nuC 1 t s r) (M 31) 1) 512))), (6, .int (iZ (buZ (nuC 1 t s r) (M 31)))), (12, .int (iZ (difK (M 31) (keyZ (nuC 1 t s r) (M 31) 1) 512))), (11, .int (iZ (buZ (nuC 1 t s r) (M 31)))), (0, .ref (wa w 30)), (1, .int (iZ 1)), (2, .int (iZ 2)), (3, .int (iZ 27)), (4, .int (iZ 13)), (5, .int (iZ (M 30 8))), (8, .int (iZ ((t : Nat) : Int))), (9, .int (iZ ((s : Nat) : Int))), (10, .int (iZ ((r : Nat) : Int)))]) (by rw [hkL]; decide) rfl ?_
                                                  refine ww_iconst C dX6_best_277 ?_
                                                  refine ww_istore C dX6_best_278 (lv' := [(13, .int (iZ 0)), (7, .int (iZ (difK (M 31) (keyZ (nuC 1 t s r) (M 31) 1) 512))), (6, .int (iZ (buZ (nuC 1 t s r) (M 31)))), (12, .int (iZ (difK (M 31) (keyZ (nuC 1 t s r) (M 31) 1) 512))), (11, .int (iZ (buZ (nuC 1 t s r) (M 31)))), (0, .ref (wa w 30)), (1, .int (iZ 1)), (2, .int (iZ 2)), (3, .int (iZ 27)), (4, .int (iZ 13)), (5, .int (iZ (M 30 8))), (8, .int (iZ ((t : Nat) : Int))), (9, .int (iZ ((s : Nat) : Int))), (10, .int (iZ ((r : Nat) : Int)))]) (by rw [hkL]; decide) rfl ?_
                                                  have L_280 : ∀ (fuel : Nat) (k2 : Nat) (hk2 : k2 ≤ 9), 9 - k2 < fuel → WW w k 280 [(0, .ref (wa w 30)), (1, .int (iZ 1)), (2, .int (iZ 2)), (3, .int (iZ 27)), (4, .int (iZ 13)), (5, .int (iZ (M 30 8))), (6, .int (iZ (buZ (nuC 1 t s r) (M 31)))), (7, .int (iZ (difK (M 31) (keyZ (nuC 1 t s r) (M 31) 1) 512))), (8, .int (iZ ((t : Nat) : Int))), (9, .int (iZ ((s : Nat) : Int))), (10, .int (iZ ((r : Nat) : Int))), (13, .int (iZ ((k2 : Nat) : Int)))] [] (ups (ups (ups Mt 37 (nuC 1 t s r)) 40 ic_245) 43 (cpy k2 (nuC 1 t s r) (Mt 43))) := by
                                                    intro fuel
                                                    induction fuel with
                                                    | zero => intro k2 hk2 hf_280; exact absurd hf_280 (Nat.not_lt_zero _)
                                                    | succ fuel ih_280 =>
                                                      intro k2 hk2 hf_280
                                                      refine ww_iload C dX6_best_280 11 rfl ?_
                                                      refine ww_bipush C dX6_best_282 (by decide) ?_
                                                      refine ww_icmp_ge C 307 dX6_best_284 (by decide) (by omega) (by omega) (fun c_284 => ?_) (fun c_284 => ?_)
                                                      · refine ww_iinc2 C dX6_best_307 10 rfl (b := ((r + 1 : Nat) : Int)) (by omega) (lv' := [(10, .int (iZ ((r + 1 : Nat) : Int))), (0, .ref (wa w 30)), (1, .int (iZ 1)), (2, .int (iZ 2)), (3, .int (iZ 27)), (4, .int (iZ 13)), (5, .int (iZ (M 30 8))), (6, .int (iZ (buZ (nuC 1 t s r) (M 31)))), (7, .int (iZ (difK (M 31) (keyZ (nuC 1 t s r) (M 31) 1) 512))), (8, .int (iZ ((t : Nat) : Int))), (9, .int (iZ ((s : Nat) : Int))), (13, .int (iZ ((k2 : Nat) : Int)))]) (by rw [hkL]; decide) rfl ?_
                                                        refine ww_goto C 175 dX6_best_310 (by decide) ?_
                                                        refine ww_sub [1, 2, 3, 4, 5, 6, 7, 8, 9, 10, 0] rfl ?_
                                                        exact ih_175 (r + 1) (buZ (nuC 1 t s r) (M 31)) (difK (M 31) (keyZ (nuC 1 t s r) (M 31) 1) 512) (ups (ups (ups Mt 37 (nuC 1 t s r)) 40 ic_245) 43 (cpy k2 (nuC 1 t s r) (Mt 43))) (by omega) (frR_43 (frR_40 (frR_37 hfr))) (Nu2_3 (nuC_2 hb12 (by omega) (by omega) (by omega))) (fun q hq => nuC_9 hq) (hic_245) (by have e9 := RS_take (fd := Mt 43) (fd' := cpy k2 (nuC 1 t s r) (Mt 43)) hs hb12 (by show (t * 27 + s) * 27 + r < (27 * 27 + 0) * 27 + 0; omega) hrs (hacc.mpr hrig) (by rw [hbc.1, hbc.2]; omega) (fun j hj => by unfold cpy; rw [if_pos (by omega), nuO_ix hb12 (by omega) (by omega)]); rw [hbc.1, hbc.2] at e9; exact e9) (⟨rfl, rfl, rfl⟩) (⟨rfl, rfl, rfl⟩) (by omega)
                                                      · refine ww_aload_n C dX6_best_287 0 rfl ?_
                                                        refine gt_X6_51 C dX6_best_288 ?_
                                                        refine ww_iload C dX6_best_291 11 rfl ?_
                                                        refine ww_aload_n C dX6_best_293 0 rfl ?_
                                                        refine gt_X6_28 C dX6_best_294 ?_
                                                        refine ww_iload C dX6_best_297 11 rfl ?_
                                                        refine al_37 C k2 (z := (nuC 1 t s r) k2) rfl (by omega) rfl dX6_best_299 ?_
                                                        refine as_43 C k2 rfl (by omega) dX6_best_300 ?_
                                                        refine ww_mem (M1 := ups (ups (ups Mt 37 (nuC 1 t s r)) 40 ic_245) 43 (cpy (k2 + 1) (nuC 1 t s r) (Mt 43))) (by rw [ups_ups]; show ups (ups (ups Mt 37 (nuC 1 t s r)) 40 ic_245) 43 (up1 (cpy k2 (nuC 1 t s r) (Mt 43)) k2 ((nuC 1 t s r) k2)) = _; rw [cpy_s]) ?_
                                                        refine ww_iinc2 C dX6_best_301 11 rfl (b := ((k2 + 1 : Nat) : Int)) (by omega) (lv' := [(13, .int (iZ ((k2 + 1 : Nat) : Int))), (0, .ref (wa w 30)), (1, .int (iZ 1)), (2, .int (iZ 2)), (3, .int (iZ 27)), (4, .int (iZ 13)), (5, .int (iZ (M 30 8))), (6, .int (iZ (buZ (nuC 1 t s r) (M 31)))), (7, .int (iZ (difK (M 31) (keyZ (nuC 1 t s r) (M 31) 1) 512))), (8, .int (iZ ((t : Nat) : Int))), (9, .int (iZ ((s : Nat) : Int))), (10, .int (iZ ((r : Nat) : Int)))]) (by rw [hkL]; decide) rfl ?_
                                                        refine ww_goto C 280 dX6_best_304 (by decide) ?_
                                                        refine ww_sub [1, 2, 3, 4, 5, 6, 7, 8, 9, 10, 11, 0] rfl ?_
                                                        exact ih_280 (k2 + 1) (by omega) (by omega)
                                                  refine ww_sub [5, 6, 7, 8, 9, 10, 2, 1, 11, 12, 13, 0] rfl ?_
                                                  refine ww_mem (M1 := ups (ups (ups Mt 37 (nuC 1 t s r)) 40 ic_245) 43 (cpy 0 (nuC 1 t s r) (Mt 43))) (by rw [cpy_0]; exact (ups_id (M := ups (ups Mt 37 (nuC 1 t s r)) 40 ic_245) (h := 43)).symm) ?_
                                                  exact L_280 _ 0 (by omega) (Nat.lt_succ_self _)
                                                · refine ww_iload C dX6_best_255 1 rfl ?_
                                                  refine ww_iload C dX6_best_257 8 rfl ?_
                                                  refine ww_icmp_lt C 269 dX6_best_259 (by decide) (by omega) (by omega) (fun c_259 => ?_) (fun c_259 => ?_)
                                                  · refine ww_iload C dX6_best_269 1 rfl ?_
                                                    refine ww_istore C dX6_best_271 (lv' := [(6, .int (iZ (buZ (nuC 1 t s r) (M 31)))), (12, .int (iZ (difK (M 31) (keyZ (nuC 1 t s r) (M 31) 1) 512))), (11, .int (iZ (buZ (nuC 1 t s r) (M 31)))), (0, .ref (wa w 30)), (1, .int (iZ 1)), (2, .int (iZ 2)), (3, .int (iZ 27)), (4, .int (iZ 13)), (5, .int (iZ (M 30 8))), (7, .int (iZ fe)), (8, .int (iZ ((t : Nat) : Int))), (9, .int (iZ ((s : Nat) : Int))), (10, .int (iZ ((r : Nat) : Int)))]) (by rw [hkL]; decide) rfl ?_
                                                    refine ww_iload C dX6_best_273 1 rfl ?_
                                                    refine ww_istore C dX6_best_275 (lv' := [(7, .int (iZ (difK (M 31) (keyZ (nuC 1 t s r) (M 31) 1) 512))), (6, .int (iZ (buZ (nuC 1 t s r) (M 31)))), (12, .int (iZ (difK (M 31) (keyZ (nuC 1 t s r) (M 31) 1) 512))), (11, .int (iZ (buZ (nuC 1 t s r) (M 31)))), (0, .ref (wa w 30)), (1, .int (iZ 1)), (2, .int (iZ 2)), (3, .int (iZ 27)), (4, .int (iZ 13)), (5, .int (iZ (M 30 8))), (8, .int (iZ ((t : Nat) : Int))), (9, .int (iZ ((s : Nat) : Int))), (10, .int (iZ ((r : Nat) : Int)))]) (by rw [hkL]; decide) rfl ?_
                                                    refine ww_iconst C dX6_best_277 ?_
                                                    refine ww_istore C dX6_best_278 (lv' := [(13, .int (iZ 0)), (7, .int (iZ (difK (M 31) (keyZ (nuC 1 t s r) (M 31) 1) 512))), (6, .int (iZ (buZ (nuC 1 t s r) (M 31)))), (12, .int (iZ (difK (M 31) (keyZ (nuC 1 t s r) (M 31) 1) 512))), (11, .int (iZ (buZ (nuC 1 t s r) (M 31)))), (0, .ref (wa w 30)), (1, .int (iZ 1)), (2, .int (iZ 2)), (3, .int (iZ 27)), (4, .int (iZ 13)), (5, .int (iZ (M 30 8))), (8, .int (iZ ((t : Nat) : Int))), (9, .int (iZ ((s : Nat) : Int))), (10, .int (iZ ((r : Nat) : Int)))]) (by rw [hkL]; decide) rfl ?_
                                                    have L_280 : ∀ (fuel : Nat) (k2 : Nat) (hk2 : k2 ≤ 9), 9 - k2 < fuel → WW w k 280 [(0, .ref (wa w 30)), (1, .int (iZ 1)), (2, .int (iZ 2)), (3, .int (iZ 27)), (4, .int (iZ 13)), (5, .int (iZ (M 30 8))), (6, .int (iZ (buZ (nuC 1 t s r) (M 31)))), (7, .int (iZ (difK (M 31) (keyZ (nuC 1 t s r) (M 31) 1) 512))), (8, .int (iZ ((t : Nat) : Int))), (9, .int (iZ ((s : Nat) : Int))), (10, .int (iZ ((r : Nat) : Int))), (13, .int (iZ ((k2 : Nat) : Int)))] [] (ups (ups (ups Mt 37 (nuC 1 t s r)) 40 ic_245) 43 (cpy k2 (nuC 1 t s r) (Mt 43))) := by
                                                      intro fuel
                                                      induction fuel with
                                                      | zero => intro k2 hk2 hf_280; exact absurd hf_280 (Nat.not_lt_zero _)
                                                      | succ fuel ih_280 =>
                                                        intro k2 hk2 hf_280
                                                        refine ww_iload C dX6_best_280 11 rfl ?_
                                                        refine ww_bipush C dX6_best_282 (by decide) ?_
                                                        refine ww_icmp_ge C 307 dX6_best_284 (by decide) (by omega) (by omega) (fun c_284 => ?_) (fun c_284 => ?_)
                                                        · refine ww_iinc2 C dX6_best_307 10 rfl (b := ((r + 1 : Nat) : Int)) (by omega) (lv' := [(10, .int (iZ ((r + 1 : Nat) : Int))), (0, .ref (wa w 30)), (1, .int (iZ 1)), (2, .int (iZ 2)), (3, .int (iZ 27)), (4, .int (iZ 13)), (5, .int (iZ (M 30 8))), (6, .int (iZ (buZ (nuC 1 t s r) (M 31)))), (7, .int (iZ (difK (M 31) (keyZ (nuC 1 t s r) (M 31) 1) 512))), (8, .int (iZ ((t : Nat) : Int))), (9, .int (iZ ((s : Nat) : Int))), (13, .int (iZ ((k2 : Nat) : Int)))]) (by rw [hkL]; decide) rfl ?_
                                                          refine ww_goto C 175 dX6_best_310 (by decide) ?_
                                                          refine ww_sub [1, 2, 3, 4, 5, 6, 7, 8, 9, 10, 0] rfl ?_
                                                          exact ih_175 (r + 1) (buZ (nuC 1 t s r) (M 31)) (difK (M 31) (keyZ (nuC 1 t s r) (M 31) 1) 512) (ups (ups (ups Mt 37 (nuC 1 t s r)) 40 ic_245) 43 (cpy k2 (nuC 1 t s r) (Mt 43))) (by omega) (frR_43 (frR_40 (frR_37 hfr))) (Nu2_3 (nuC_2 hb12 (by omega) (by omega) (by omega))) (fun q hq => nuC_9 hq) (hic_245) (by have e9 := RS_take (fd := Mt 43) (fd' := cpy k2 (nuC 1 t s r) (Mt 43)) hs hb12 (by show (t * 27 + s) * 27 + r < (27 * 27 + 0) * 27 + 0; omega) hrs (hacc.mpr hrig) (by rw [hbc.1, hbc.2]; omega) (fun j hj => by unfold cpy; rw [if_pos (by omega), nuO_ix hb12 (by omega) (by omega)]); rw [hbc.1, hbc.2] at e9; exact e9) (⟨rfl, rfl, rfl⟩) (⟨rfl, rfl, rfl⟩) (by omega)
                                                        · refine ww_aload_n C dX6_best_287 0 rfl ?_
                                                          refine gt_X6_51 C dX6_best_288 ?_
                                                          refine ww_iload C dX6_best_291 11 rfl ?_
                                                          refine ww_aload_n C dX6_best_293 0 rfl ?_
                                                          refine gt_X6_28 C dX6_best_294 ?_
                                                          refine ww_iload C dX6_best_297 11 rfl ?_
                                                          refine al_37 C k2 (z := (nuC 1 t s r) k2) rfl (by omega) rfl dX6_best_299 ?_
                                                          refine as_43 C k2 rfl (by omega) dX6_best_300 ?_
                                                          refine ww_mem (M1 := ups (ups (ups Mt 37 (nuC 1 t s r)) 40 ic_245) 43 (cpy (k2 + 1) (nuC 1 t s r) (Mt 43))) (by rw [ups_ups]; show ups (ups (ups Mt 37 (nuC 1 t s r)) 40 ic_245) 43 (up1 (cpy k2 (nuC 1 t s r) (Mt 43)) k2 ((nuC 1 t s r) k2)) = _; rw [cpy_s]) ?_
                                                          refine ww_iinc2 C dX6_best_301 11 rfl (b := ((k2 + 1 : Nat) : Int)) (by omega) (lv' := [(13, .int (iZ ((k2 + 1 : Nat) : Int))), (0, .ref (wa w 30)), (1, .int (iZ 1)), (2, .int (iZ 2)), (3, .int (iZ 27)), (4, .int (iZ 13)), (5, .int (iZ (M 30 8))), (6, .int (iZ (buZ (nuC 1 t s r) (M 31)))), (7, .int (iZ (difK (M 31) (keyZ (nuC 1 t s r) (M 31) 1) 512))), (8, .int (iZ ((t : Nat) : Int))), (9, .int (iZ ((s : Nat) : Int))), (10, .int (iZ ((r : Nat) : Int)))]) (by rw [hkL]; decide) rfl ?_
                                                          refine ww_goto C 280 dX6_best_304 (by decide) ?_
                                                          refine ww_sub [1, 2, 3, 4, 5, 6, 7, 8, 9, 10, 11, 0] rfl ?_
                                                          exact ih_280 (k2 + 1) (by omega) (by omega)
                                                    refine ww_sub [5, 6, 7, 8, 9, 10, 2, 1, 11, 12, 13, 0] rfl ?_
                                                    refine ww_mem (M1 := ups (ups (ups Mt 37 (nuC 1 t s r)) 40 ic_245) 43 (cpy 0 (nuC 1 t s r) (Mt 43))) (by rw [cpy_0]; exact (ups_id (M := ups (ups Mt 37 (nuC 1 t s r)) 40 ic_245) (h := 43)).symm) ?_
                                                    exact L_280 _ 0 (by omega) (Nat.lt_succ_self _)
                                                  · refine ww_iload C dX6_best_262 0 rfl ?_
                                                    refine ww_iload C dX6_best_264 9 rfl ?_
                                                    refine ww_icmp_ge C 307 dX6_best_266 (by decide) (by omega) (by omega) (fun c_266 => ?_) (fun c_266 => ?_)
                                                    · refine ww_iinc2 C dX6_best_307 12 rfl (b := ((r + 1 : Nat) : Int)) (by omega) (lv' := [(10, .int (iZ ((r + 1 : Nat) : Int))), (12, .int (iZ (difK (M 31) (keyZ (nuC 1 t s r) (M 31) 1) 512))), (11, .int (iZ (buZ (nuC 1 t s r) (M 31)))), (0, .ref (wa w 30)), (1, .int (iZ 1)), (2, .int (iZ 2)), (3, .int (iZ 27)), (4, .int (iZ 13)), (5, .int (iZ (M 30 8))), (6, .int (iZ le)), (7, .int (iZ fe)), (8, .int (iZ ((t : Nat) : Int))), (9, .int (iZ ((s : Nat) : Int)))]) (by rw [hkL]; decide) rfl ?_
                                                      refine ww_goto C 175 dX6_best_310 (by decide) ?_
                                                      refine ww_sub [3, 4, 5, 6, 7, 8, 9, 10, 11, 12, 0] rfl ?_
                                                      exact ih_175 (r + 1) le fe (ups (ups Mt 37 (nuC 1 t s r)) 40 ic_245) (by omega) (frR_40 (frR_37 hfr)) (Nu2_3 (nuC_2 hb12 (by omega) (by omega) (by omega))) (fun q hq => nuC_9 hq) (hic_245) (RS_one hrs (fun _ => by rw [hbc.1, hbc.2]; omega)) (⟨rfl, rfl, rfl⟩) (⟨rfl, rfl, rfl⟩) (by omega)
                                                    · refine ww_iload C dX6_best_269 1 rfl ?_
                                                      refine ww_istore C dX6_best_271 (lv' := [(6, .int (iZ (buZ (nuC 1 t s r) (M 31)))), (12, .int (iZ (difK (M 31) (keyZ (nuC 1 t s r) (M 31) 1) 512))), (11, .int (iZ (buZ (nuC 1 t s r) (M 31)))), (0, .ref (wa w 30)), (1, .int (iZ 1)), (2, .int (iZ 2)), (3, .int (iZ 27)), (4, .int (iZ 13)), (5, .int (iZ (M 30 8))), (7, .int (iZ fe)), (8, .int (iZ ((t : Nat) : Int))), (9, .int (iZ ((s : Nat) : Int))), (10, .int (iZ ((r : Nat) : Int)))]) (by rw [hkL]; decide) rfl ?_
                                                      refine ww_iload C dX6_best_273 1 rfl ?_
                                                      refine ww_istore C dX6_best_275 (lv' := [(7, .int (iZ (difK (M 31) (keyZ (nuC 1 t s r) (M 31) 1) 512))), (6, .int (iZ (buZ (nuC 1 t s r) (M 31)))), (12, .int (iZ (difK (M 31) (keyZ (nuC 1 t s r) (M 31) 1) 512))), (11, .int (iZ (buZ (nuC 1 t s r) (M 31)))), (0, .ref (wa w 30)), (1, .int (iZ 1)), (2, .int (iZ 2)), (3, .int (iZ 27)), (4, .int (iZ 13)), (5, .int (iZ (M 30 8))), (8, .int (iZ ((t : Nat) : Int))), (9, .int (iZ ((s : Nat) : Int))), (10, .int (iZ ((r : Nat) : Int)))]) (by rw [hkL]; decide) rfl ?_
                                                      refine ww_iconst C dX6_best_277 ?_
                                                      refine ww_istore C dX6_best_278 (lv' := [(13, .int (iZ 0)), (7, .int (iZ (difK (M 31) (keyZ (nuC 1 t s r) (M 31) 1) 512))), (6, .int (iZ (buZ (nuC 1 t s r) (M 31)))), (12, .int (iZ (difK (M 31) (keyZ (nuC 1 t s r) (M 31) 1) 512))), (11, .int (iZ (buZ (nuC 1 t s r) (M 31)))), (0, .ref (wa w 30)), (1, .int (iZ 1)), (2, .int (iZ 2)), (3, .int (iZ 27)), (4, .int (iZ 13)), (5, .int (iZ (M 30 8))), (8, .int (iZ ((t : Nat) : Int))), (9, .int (iZ ((s : Nat) : Int))), (10, .int (iZ ((r : Nat) : Int)))]) (by rw [hkL]; decide) rfl ?_
                                                      have L_280 : ∀ (fuel : Nat) (k2 : Nat) (hk2 : k2 ≤ 9), 9 - k2 < fuel → WW w k 280 [(0, .ref (wa w 30)), (1, .int (iZ 1)), (2, .int (iZ 2)), (3, .int (iZ 27)), (4, .int (iZ 13)), (5, .int (iZ (M 30 8))), (6, .int (iZ (buZ (nuC 1 t s r) (M 31)))), (7, .int (iZ (difK (M 31) (keyZ (nuC 1 t s r) (M 31) 1) 512))), (8, .int (iZ ((t : Nat) : Int))), (9, .int (iZ ((s : Nat) : Int))), (10, .int (iZ ((r : Nat) : Int))), (13, .int (iZ ((k2 : Nat) : Int)))] [] (ups (ups (ups Mt 37 (nuC 1 t s r)) 40 ic_245) 43 (cpy k2 (nuC 1 t s r) (Mt 43))) := by
                                                        intro fuel
                                                        induction fuel with
                                                        | zero => intro k2 hk2 hf_280; exact absurd hf_280 (Nat.not_lt_zero _)
                                                        | succ fuel ih_280 =>
                                                          intro k2 hk2 hf_280
                                                          refine ww_iload C dX6_best_280 11 rfl ?_
                                                          refine ww_bipush C dX6_best_282 (by decide) ?_
                                                          refine ww_icmp_ge C 307 dX6_best_284 (by decide) (by omega) (by omega) (fun c_284 => ?_) (fun c_284 => ?_)
                                                          · refine ww_iinc2 C dX6_best_307 10 rfl (b := ((r + 1 : Nat) : Int)) (by omega) (lv' := [(10, .int (iZ ((r + 1 : Nat) : Int))), (0, .ref (wa w 30)), (1, .int (iZ 1)), (2, .int (iZ 2)), (3, .int (iZ 27)), (4, .int (iZ 13)), (5, .int (iZ (M 30 8))), (6, .int (iZ (buZ (nuC 1 t s r) (M 31)))), (7, .int (iZ (difK (M 31) (keyZ (nuC 1 t s r) (M 31) 1) 512))), (8, .int (iZ ((t : Nat) : Int))), (9, .int (iZ ((s : Nat) : Int))), (13, .int (iZ ((k2 : Nat) : Int)))]) (by rw [hkL]; decide) rfl ?_
                                                            refine ww_goto C 175 dX6_best_310 (by decide) ?_
                                                            refine ww_sub [1, 2, 3, 4, 5, 6, 7, 8, 9, 10, 0] rfl ?_
                                                            exact ih_175 (r + 1) (buZ (nuC 1 t s r) (M 31)) (difK (M 31) (keyZ (nuC 1 t s r) (M 31) 1) 512) (ups (ups (ups Mt 37 (nuC 1 t s r)) 40 ic_245) 43 (cpy k2 (nuC 1 t s r) (Mt 43))) (by omega) (frR_43 (frR_40 (frR_37 hfr))) (Nu2_3 (nuC_2 hb12 (by omega) (by omega) (by omega))) (fun q hq => nuC_9 hq) (hic_245) (by have e9 := RS_take (fd := Mt 43) (fd' := cpy k2 (nuC 1 t s r) (Mt 43)) hs hb12 (by show (t * 27 + s) * 27 + r < (27 * 27 + 0) * 27 + 0; omega) hrs (hacc.mpr hrig) (by rw [hbc.1, hbc.2]; omega) (fun j hj => by unfold cpy; rw [if_pos (by omega), nuO_ix hb12 (by omega) (by omega)]); rw [hbc.1, hbc.2] at e9; exact e9) (⟨rfl, rfl, rfl⟩) (⟨rfl, rfl, rfl⟩) (by omega)
                                                          · refine ww_aload_n C dX6_best_287 0 rfl ?_
                                                            refine gt_X6_51 C dX6_best_288 ?_
                                                            refine ww_iload C dX6_best_291 11 rfl ?_
                                                            refine ww_aload_n C dX6_best_293 0 rfl ?_
                                                            refine gt_X6_28 C dX6_best_294 ?_
                                                            refine ww_iload C dX6_best_297 11 rfl ?_
                                                            refine al_37 C k2 (z := (nuC 1 t s r) k2) rfl (by omega) rfl dX6_best_299 ?_
                                                            refine as_43 C k2 rfl (by omega) dX6_best_300 ?_
                                                            refine ww_mem (M1 := ups (ups (ups Mt 37 (nuC 1 t s r)) 40 ic_245) 43 (cpy (k2 + 1) (nuC 1 t s r) (Mt 43))) (by rw [ups_ups]; show ups (ups (ups Mt 37 (nuC 1 t s r)) 40 ic_245) 43 (up1 (cpy k2 (nuC 1 t s r) (Mt 43)) k2 ((nuC 1 t s r) k2)) = _; rw [cpy_s]) ?_
                                                            refine ww_iinc2 C dX6_best_301 11 rfl (b := ((k2 + 1 : Nat) : Int)) (by omega) (lv' := [(13, .int (iZ ((k2 + 1 : Nat) : Int))), (0, .ref (wa w 30)), (1, .int (iZ 1)), (2, .int (iZ 2)), (3, .int (iZ 27)), (4, .int (iZ 13)), (5, .int (iZ (M 30 8))), (6, .int (iZ (buZ (nuC 1 t s r) (M 31)))), (7, .int (iZ (difK (M 31) (keyZ (nuC 1 t s r) (M 31) 1) 512))), (8, .int (iZ ((t : Nat) : Int))), (9, .int (iZ ((s : Nat) : Int))), (10, .int (iZ ((r : Nat) : Int)))]) (by rw [hkL]; decide) rfl ?_
                                                            refine ww_goto C 280 dX6_best_304 (by decide) ?_
                                                            refine ww_sub [1, 2, 3, 4, 5, 6, 7, 8, 9, 10, 11, 0] rfl ?_
                                                            exact ih_280 (k2 + 1) (by omega) (by omega)
                                                      refine ww_sub [5, 6, 7, 8, 9, 10, 2, 1, 11, 12, 13, 0] rfl ?_
                                                      refine ww_mem (M1 := ups (ups (ups Mt 37 (nuC 1 t s r)) 40 ic_245) 43 (cpy 0 (nuC 1 t s r) (Mt 43))) (by rw [cpy_0]; exact (ups_id (M := ups (ups Mt 37 (nuC 1 t s r)) 40 ic_245) (h := 43)).symm) ?_
                                                      exact L_280 _ 0 (by omega) (Nat.lt_succ_self _)
                                              · refine ww_iload C dX6_best_234 0 rfl ?_
                                                refine ww_iload C dX6_best_236 7 rfl ?_
                                                refine ww_icmp_le C 244 dX6_best_238 (by decide) (by omega) (by omega) (fun c_238 => ?_) (fun c_238 => ?_)
                                                · refine ww_aload_n C dX6_best_244 1 rfl ?_
                                                  refine ww_callV C (As := []) 30 (by decide) (ct_X6_cells w (ups Mt 37 (nuC 1 t s r)) (show SzOk ((Mt 31)) from by rw [q31]; exact hs) (show NuOk ((nuC 1 t s r)) from Nu2_3 (nuC_2 hb12 (by omega) (by omega) (by omega))) (show 1 ≤ (Mt 30) 8 ∧ (Mt 30) 8 ≤ 8 from by rw [q308]; omega) (show ∀ j : Nat, 4096 ≤ j → (Mt 40) j = 0 from h40t)) mf_X6_cells ml_X6_124 rfl rfl (by decide) rfl rfl (Nat.le_of_ble_eq_true rfl) dX6_best_245 (fun z_245 M_245 hp_245 => ?_)
                                                  obtain ⟨hz_245, ic_245, hic_245, hm_245⟩ := hp_245
                                                  have hz_245 : z_245 = difK (Mt 31) (keyZ (nuC 1 t s r) (Mt 31) (Mt 30 8)) 512 := hz_245
                                                  rw [q31, q308] at hz_245
                                                  have hdb := dif_b (M 31) (keyZ (nuC 1 t s r) (M 31) 1) 512
                                                  refine ww_mem (M1 := ups (ups Mt 37 (nuC 1 t s r)) 40 ic_245) (hm_245) ?_
                                                  refine ww_top (b := difK (M 31) (keyZ (nuC 1 t s r) (M 31) 1) 512) (hz_245) ?_
                                                  refine ww_istore C dX6_best_248 (lv' := [(12, .int (iZ (difK (M 31) (keyZ (nuC 1 t s r) (M 31) 1) 512))), (11, .int (iZ (buZ (nuC 1 t s r) (M 31)))), (0, .ref (wa w 30)), (1, .int (iZ 1)), (2, .int (iZ 2)), (3, .int (iZ 27)), (4, .int (iZ 13)), (5, .int (iZ (M 30 8))), (6, .int (iZ le)), (7, .int (iZ fe)), (8, .int (iZ ((t : Nat) : Int))), (9, .int (iZ ((s : Nat) : Int))), (10, .int (iZ ((r : Nat) : Int)))]) (by rw [hkL]; decide) rfl ?_
                                                  refine ww_iload C dX6_best_250 8 rfl ?_
                                                  refine ww_if_lt C 269 dX6_best_252 (by decide) (by omega) (fun c_252 => ?_) (fun c_252 => ?_)
                                                  · refine ww_iload C dX6_best_269 1 rfl ?_
                                                    refine ww_istore C dX6_best_271 (lv' := [(6, .int (iZ (buZ (nuC 1 t s r) (M 31)))), (12, .int (iZ (difK (M 31) (keyZ (nuC 1 t s r) (M 31) 1) 512))), (11, .int (iZ (buZ (nuC 1 t s r) (M 31)))), (0, .ref (wa w 30)), (1, .int (iZ 1)), (2, .int (iZ 2)), (3, .int (iZ 27)), (4, .int (iZ 13)), (5, .int (iZ (M 30 8))), (7, .int (iZ fe)), (8, .int (iZ ((t : Nat) : Int))), (9, .int (iZ ((s : Nat) : Int))), (10, .int (iZ ((r : Nat) : Int)))]) (by rw [hkL]; decide) rfl ?_
                                                    refine ww_iload C dX6_best_273 1 rfl ?_
                                                    refine ww_istore C dX6_best_275 (lv' := [(7, .int (iZ (difK (M 31) (keyZ (nuC 1 t s r) (M 31) 1) 512))), (6, .int (iZ (buZ (nuC 1 t s r) (M 31)))), (12, .int (iZ (difK (M 31) (keyZ (nuC 1 t s r) (M 31) 1) 512))), (11, .int (iZ (buZ (nuC 1 t s r) (M 31)))), (0, .ref (wa w 30)), (1, .int (iZ 1)), (2, .int (iZ 2)), (3, .int (iZ 27)), (4, .int (iZ 13)), (5, .int (iZ (M 30 8))), (8, .int (iZ ((t : Nat) : Int))), (9, .int (iZ ((s : Nat) : Int))), (10, .int (iZ ((r : Nat) : Int)))]) (by rw [hkL]; decide) rfl ?_
                                                    refine ww_iconst C dX6_best_277 ?_
                                                    refine ww_istore C dX6_best_278 (lv' := [(13, .int (iZ 0)), (7, .int (iZ (difK (M 31) (keyZ (nuC 1 t s r) (M 31) 1) 512))), (6, .int (iZ (buZ (nuC 1 t s r) (M 31)))), (12, .int (iZ (difK (M 31) (keyZ (nuC 1 t s r) (M 31) 1) 512))), (11, .int (iZ (buZ (nuC 1 t s r) (M 31)))), (0, .ref (wa w 30)), (1, .int (iZ 1)), (2, .int (iZ 2)), (3, .int (iZ 27)), (4, .int (iZ 13)), (5, .int (iZ (M 30 8))), (8, .int (iZ ((t : Nat) : Int))), (9, .int (iZ ((s : Nat) : Int))), (10, .int (iZ ((r : Nat) : Int)))]) (by rw [hkL]; decide) rfl ?_
                                                    have L_280 : ∀ (fuel : Nat) (k2 : Nat) (hk2 : k2 ≤ 9), 9 - k2 < fuel → WW w k 280 [(0, .ref (wa w 30)), (1, .int (iZ 1)), (2, .int (iZ 2)), (3, .int (iZ 27)), (4, .int (iZ 13)), (5, .int (iZ (M 30 8))), (6, .int (iZ (buZ (nuC 1 t s r) (M 31)))), (7, .int (iZ (difK (M 31) (keyZ (nuC 1 t s r) (M 31) 1) 512))), (8, .int (iZ ((t : Nat) : Int))), (9, .int (iZ ((s : Nat) : Int))), (10, .int (iZ ((r : Nat) : Int))), (13, .int (iZ ((k2 : Nat) : Int)))] [] (ups (ups (ups Mt 37 (nuC 1 t s r)) 40 ic_245) 43 (cpy k2 (nuC 1 t s r) (Mt 43))) := by
                                                      intro fuel
                                                      induction fuel with
                                                      | zero => intro k2 hk2 hf_280; exact absurd hf_280 (Nat.not_lt_zero _)
                                                      | succ fuel ih_280 =>
                                                        intro k2 hk2 hf_280
                                                        refine ww_iload C dX6_best_280 11 rfl ?_
                                                        refine ww_bipush C dX6_best_282 (by decide) ?_
                                                        refine ww_icmp_ge C 307 dX6_best_284 (by decide) (by omega) (by omega) (fun c_284 => ?_) (fun c_284 => ?_)
                                                        · refine ww_iinc2 C dX6_best_307 10 rfl (b := ((r + 1 : Nat) : Int)) (by omega) (lv' := [(10, .int (iZ ((r + 1 : Nat) : Int))), (0, .ref (wa w 30)), (1, .int (iZ 1)), (2, .int (iZ 2)), (3, .int (iZ 27)), (4, .int (iZ 13)), (5, .int (iZ (M 30 8))), (6, .int (iZ (buZ (nuC 1 t s r) (M 31)))), (7, .int (iZ (difK (M 31) (keyZ (nuC 1 t s r) (M 31) 1) 512))), (8, .int (iZ ((t : Nat) : Int))), (9, .int (iZ ((s : Nat) : Int))), (13, .int (iZ ((k2 : Nat) : Int)))]) (by rw [hkL]; decide) rfl ?_
                                                          refine ww_goto C 175 dX6_best_310 (by decide) ?_
                                                          refine ww_sub [1, 2, 3, 4, 5, 6, 7, 8, 9, 10, 0] rfl ?_
                                                          exact ih_175 (r + 1) (buZ (nuC 1 t s r) (M 31)) (difK (M 31) (keyZ (nuC 1 t s r) (M 31) 1) 512) (ups (ups (ups Mt 37 (nuC 1 t s r)) 40 ic_245) 43 (cpy k2 (nuC 1 t s r) (Mt 43))) (by omega) (frR_43 (frR_40 (frR_37 hfr))) (Nu2_3 (nuC_2 hb12 (by omega) (by omega) (by omega))) (fun q hq => nuC_9 hq) (hic_245) (by have e9 := RS_take (fd := Mt 43) (fd' := cpy k2 (nuC 1 t s r) (Mt 43)) hs hb12 (by show (t * 27 + s) * 27 + r < (27 * 27 + 0) * 27 + 0; omega) hrs (hacc.mpr hrig) (by rw [hbc.1, hbc.2]; omega) (fun j hj => by unfold cpy; rw [if_pos (by omega), nuO_ix hb12 (by omega) (by omega)]); rw [hbc.1, hbc.2] at e9; exact e9) (⟨rfl, rfl, rfl⟩) (⟨rfl, rfl, rfl⟩) (by omega)
                                                        · refine ww_aload_n C dX6_best_287 0 rfl ?_
                                                          refine gt_X6_51 C dX6_best_288 ?_
                                                          refine ww_iload C dX6_best_291 11 rfl ?_
                                                          refine ww_aload_n C dX6_best_293 0 rfl ?_
                                                          refine gt_X6_28 C dX6_best_294 ?_
                                                          refine ww_iload C dX6_best_297 11 rfl ?_
                                                          refine al_37 C k2 (z := (nuC 1 t s r) k2) rfl (by omega) rfl dX6_best_299 ?_
                                                          refine as_43 C k2 rfl (by omega) dX6_best_300 ?_
                                                          refine ww_mem (M1 := ups (ups (ups Mt 37 (nuC 1 t s r)) 40 ic_245) 43 (cpy (k2 + 1) (nuC 1 t s r) (Mt 43))) (by rw [ups_ups]; show ups (ups (ups Mt 37 (nuC 1 t s r)) 40 ic_245) 43 (up1 (cpy k2 (nuC 1 t s r) (Mt 43)) k2 ((nuC 1 t s r) k2)) = _; rw [cpy_s]) ?_
                                                          refine ww_iinc2 C dX6_best_301 11 rfl (b := ((k2 + 1 : Nat) : Int)) (by omega) (lv' := [(13, .int (iZ ((k2 + 1 : Nat) : Int))), (0, .ref (wa w 30)), (1, .int (iZ 1)), (2, .int (iZ 2)), (3, .int (iZ 27)), (4, .int (iZ 13)), (5, .int (iZ (M 30 8))), (6, .int (iZ (buZ (nuC 1 t s r) (M 31)))), (7, .int (iZ (difK (M 31) (keyZ (nuC 1 t s r) (M 31) 1) 512))), (8, .int (iZ ((t : Nat) : Int))), (9, .int (iZ ((s : Nat) : Int))), (10, .int (iZ ((r : Nat) : Int)))]) (by rw [hkL]; decide) rfl ?_
                                                          refine ww_goto C 280 dX6_best_304 (by decide) ?_
                                                          refine ww_sub [1, 2, 3, 4, 5, 6, 7, 8, 9, 10, 11, 0] rfl ?_
                                                          exact ih_280 (k2 + 1) (by omega) (by omega)
                                                    refine ww_sub [5, 6, 7, 8, 9, 10, 2, 1, 11, 12, 13, 0] rfl ?_
                                                    refine ww_mem (M1 := ups (ups (ups Mt 37 (nuC 1 t s r)) 40 ic_245) 43 (cpy 0 (nuC 1 t s r) (Mt 43))) (by rw [cpy_0]; exact (ups_id (M := ups (ups Mt 37 (nuC 1 t s r)) 40 ic_245) (h := 43)).symm) ?_
                                                    exact L_280 _ 0 (by omega) (Nat.lt_succ_self _)
                                                  · refine ww_iload C dX6_best_255 1 rfl ?_
                                                    refine ww_iload C dX6_best_257 8 rfl ?_
                                                    refine ww_icmp_lt C 269 dX6_best_259 (by decide) (by omega) (by omega) (fun c_259 => ?_) (fun c_259 => ?_)
                                                    · refine ww_iload C dX6_best_269 1 rfl ?_
                                                      refine ww_istore C dX6_best_271 (lv' := [(6, .int (iZ (buZ (nuC 1 t s r) (M 31)))), (12, .int (iZ (difK (M 31) (keyZ (nuC 1 t s r) (M 31) 1) 512))), (11, .int (iZ (buZ (nuC 1 t s r) (M 31)))), (0, .ref (wa w 30)), (1, .int (iZ 1)), (2, .int (iZ 2)), (3, .int (iZ 27)), (4, .int (iZ 13)), (5, .int (iZ (M 30 8))), (7, .int (iZ fe)), (8, .int (iZ ((t : Nat) : Int))), (9, .int (iZ ((s : Nat) : Int))), (10, .int (iZ ((r : Nat) : Int)))]) (by rw [hkL]; decide) rfl ?_
                                                      refine ww_iload C dX6_best_273 1 rfl ?_
                                                      refine ww_istore C dX6_best_275 (lv' := [(7, .int (iZ (difK (M 31) (keyZ (nuC 1 t s r) (M 31) 1) 512))), (6, .int (iZ (buZ (nuC 1 t s r) (M 31)))), (12, .int (iZ (difK (M 31) (keyZ (nuC 1 t s r) (M 31) 1) 512))), (11, .int (iZ (buZ (nuC 1 t s r) (M 31)))), (0, .ref (wa w 30)), (1, .int (iZ 1)), (2, .int (iZ 2)), (3, .int (iZ 27)), (4, .int (iZ 13)), (5, .int (iZ (M 30 8))), (8, .int (iZ ((t : Nat) : Int))), (9, .int (iZ ((s : Nat) : Int))), (10, .int (iZ ((r : Nat) : Int)))]) (by rw [hkL]; decide) rfl ?_
                                                      refine ww_iconst C dX6_best_277 ?_
                                                      refine ww_istore C dX6_best_278 (lv' := [(13, .int (iZ 0)), (7, .int (iZ (difK (M 31) (keyZ (nuC 1 t s r) (M 31) 1) 512))), (6, .int (iZ (buZ (nuC 1 t s r) (M 31)))), (12, .int (iZ (difK (M 31) (keyZ (nuC 1 t s r) (M 31) 1) 512))), (11, .int (iZ (buZ (nuC 1 t s r) (M 31)))), (0, .ref (wa w 30)), (1, .int (iZ 1)), (2, .int (iZ 2)), (3, .int (iZ 27)), (4, .int (iZ 13)), (5, .int (iZ (M 30 8))), (8, .int (iZ ((t : Nat) : Int))), (9, .int (iZ ((s : Nat) : Int))), (10, .int (iZ ((r : Nat) : Int)))]) (by rw [hkL]; decide) rfl ?_
                                                      have L_280 : ∀ (fuel : Nat) (k2 : Nat) (hk2 : k2 ≤ 9), 9 - k2 < fuel → WW w k 280 [(0, .ref (wa w 30)), (1, .int (iZ 1)), (2, .int (iZ 2)), (3, .int (iZ 27)), (4, .int (iZ 13)), (5, .int (iZ (M 30 8))), (6, .int (iZ (buZ (nuC 1 t s r) (M 31)))), (7, .int (iZ (difK (M 31) (keyZ (nuC 1 t s r) (M 31) 1) 512))), (8, .int (iZ ((t : Nat) : Int))), (9, .int (iZ ((s : Nat) : Int))), (10, .int (iZ ((r : Nat) : Int))), (13, .int (iZ ((k2 : Nat) : Int)))] [] (ups (ups (ups Mt 37 (nuC 1 t s r)) 40 ic_245) 43 (cpy k2 (nuC 1 t s r) (Mt 43))) := by
                                                        intro fuel
                                                        induction fuel with
                                                        | zero => intro k2 hk2 hf_280; exact absurd hf_280 (Nat.not_lt_zero _)
                                                        | succ fuel ih_280 =>
                                                          intro k2 hk2 hf_280
                                                          refine ww_iload C dX6_best_280 11 rfl ?_
                                                          refine ww_bipush C dX6_best_282 (by decide) ?_
                                                          refine ww_icmp_ge C 307 dX6_best_284 (by decide) (by omega) (by omega) (fun c_284 => ?_) (fun c_284 => ?_)
                                                          · refine ww_iinc2 C dX6_best_307 10 rfl (b := ((r + 1 : Nat) : Int)) (by omega) (lv' := [(10, .int (iZ ((r + 1 : Nat) : Int))), (0, .ref (wa w 30)), (1, .int (iZ 1)), (2, .int (iZ 2)), (3, .int (iZ 27)), (4, .int (iZ 13)), (5, .int (iZ (M 30 8))), (6, .int (iZ (buZ (nuC 1 t s r) (M 31)))), (7, .int (iZ (difK (M 31) (keyZ (nuC 1 t s r) (M 31) 1) 512))), (8, .int (iZ ((t : Nat) : Int))), (9, .int (iZ ((s : Nat) : Int))), (13, .int (iZ ((k2 : Nat) : Int)))]) (by rw [hkL]; decide) rfl ?_
                                                            refine ww_goto C 175 dX6_best_310 (by decide) ?_
                                                            refine ww_sub [1, 2, 3, 4, 5, 6, 7, 8, 9, 10, 0] rfl ?_
                                                            exact ih_175 (r + 1) (buZ (nuC 1 t s r) (M 31)) (difK (M 31) (keyZ (nuC 1 t s r) (M 31) 1) 512) (ups (ups (ups Mt 37 (nuC 1 t s r)) 40 ic_245) 43 (cpy k2 (nuC 1 t s r) (Mt 43))) (by omega) (frR_43 (frR_40 (frR_37 hfr))) (Nu2_3 (nuC_2 hb12 (by omega) (by omega) (by omega))) (fun q hq => nuC_9 hq) (hic_245) (by have e9 := RS_take (fd := Mt 43) (fd' := cpy k2 (nuC 1 t s r) (Mt 43)) hs hb12 (by show (t * 27 + s) * 27 + r < (27 * 27 + 0) * 27 + 0; omega) hrs (hacc.mpr hrig) (by rw [hbc.1, hbc.2]; omega) (fun j hj => by unfold cpy; rw [if_pos (by omega), nuO_ix hb12 (by omega) (by omega)]); rw [hbc.1, hbc.2] at e9; exact e9) (⟨rfl, rfl, rfl⟩) (⟨rfl, rfl, rfl⟩) (by omega)
                                                          · refine ww_aload_n C dX6_best_287 0 rfl ?_
                                                            refine gt_X6_51 C dX6_best_288 ?_
                                                            refine ww_iload C dX6_best_291 11 rfl ?_
                                                            refine ww_aload_n C dX6_best_293 0 rfl ?_
                                                            refine gt_X6_28 C dX6_best_294 ?_
                                                            refine ww_iload C dX6_best_297 11 rfl ?_
                                                            refine al_37 C k2 (z := (nuC 1 t s r) k2) rfl (by omega) rfl dX6_best_299 ?_
                                                            refine as_43 C k2 rfl (by omega) dX6_best_300 ?_
                                                            refine ww_mem (M1 := ups (ups (ups Mt 37 (nuC 1 t s r)) 40 ic_245) 43 (cpy (k2 + 1) (nuC 1 t s r) (Mt 43))) (by rw [ups_ups]; show ups (ups (ups Mt 37 (nuC 1 t s r)) 40 ic_245) 43 (up1 (cpy k2 (nuC 1 t s r) (Mt 43)) k2 ((nuC 1 t s r) k2)) = _; rw [cpy_s]) ?_
                                                            refine ww_iinc2 C dX6_best_301 11 rfl (b := ((k2 + 1 : Nat) : Int)) (by omega) (lv' := [(13, .int (iZ ((k2 + 1 : Nat) : Int))), (0, .ref (wa w 30)), (1, .int (iZ 1)), (2, .int (iZ 2)), (3, .int (iZ 27)), (4, .int (iZ 13)), (5, .int (iZ (M 30 8))), (6, .int (iZ (buZ (nuC 1 t s r) (M 31)))), (7, .int (iZ (difK (M 31) (keyZ (nuC 1 t s r) (M 31) 1) 512))), (8, .int (iZ ((t : Nat) : Int))), (9, .int (iZ ((s : Nat) : Int))), (10, .int (iZ ((r : Nat) : Int)))]) (by rw [hkL]; decide) rfl ?_
                                                            refine ww_goto C 280 dX6_best_304 (by decide) ?_
                                                            refine ww_sub [1, 2, 3, 4, 5, 6, 7, 8, 9, 10, 11, 0] rfl ?_
                                                            exact ih_280 (k2 + 1) (by omega) (by omega)
                                                      refine ww_sub [5, 6, 7, 8, 9, 10, 2, 1, 11, 12, 13, 0] rfl ?_
                                                      refine ww_mem (M1 := ups (ups (ups Mt 37 (nuC 1 t s r)) 40 ic_245) 43 (cpy 0 (nuC 1 t s r) (Mt 43))) (by rw [cpy_0]; exact (ups_id (M := ups (ups Mt 37 (nuC 1 t s r)) 40 ic_245) (h := 43)).symm) ?_
                                                      exact L_280 _ 0 (by omega) (Nat.lt_succ_self _)
                                                    · refine ww_iload C dX6_best_262 0 rfl ?_
                                                      refine ww_iload C dX6_best_264 9 rfl ?_
                                                      refine ww_icmp_ge C 307 dX6_best_266 (by decide) (by omega) (by omega) (fun c_266 => ?_) (fun c_266 => ?_)
                                                      · refine ww_iinc2 C dX6_best_307 12 rfl (b := ((r + 1 : Nat) : Int)) (by omega) (lv' := [(10, .int (iZ ((r + 1 : Nat) : Int))), (12, .int (iZ (difK (M 31) (keyZ (nuC 1 t s r) (M 31) 1) 512))), (11, .int (iZ (buZ (nuC 1 t s r) (M 31)))), (0, .ref (wa w 30)), (1, .int (iZ 1)), (2, .int (iZ 2)), (3, .int (iZ 27)), (4, .int (iZ 13)), (5, .int (iZ (M 30 8))), (6, .int (iZ le)), (7, .int (iZ fe)), (8, .int (iZ ((t : Nat) : Int))), (9, .int (iZ ((s : Nat) : Int)))]) (by rw [hkL]; decide) rfl ?_
                                                        refine ww_goto C 175 dX6_best_310 (by decide) ?_
                                                        refine ww_sub [3, 4, 5, 6, 7, 8, 9, 10, 11, 12, 0] rfl ?_
                                                        exact ih_175 (r + 1) le fe (ups (ups Mt 37 (nuC 1 t s r)) 40 ic_245) (by omega) (frR_40 (frR_37 hfr)) (Nu2_3 (nuC_2 hb12 (by omega) (by omega) (by omega))) (fun q hq => nuC_9 hq) (hic_245) (RS_one hrs (fun _ => by rw [hbc.1, hbc.2]; omega)) (⟨rfl, rfl, rfl⟩) (⟨rfl, rfl, rfl⟩) (by omega)
                                                      · refine ww_iload C dX6_best_269 1 rfl ?_
                                                        refine ww_istore C dX6_best_271 (lv' := [(6, .int (iZ (buZ (nuC 1 t s r) (M 31)))), (12, .int (iZ (difK (M 31) (keyZ (nuC 1 t s r) (M 31) 1) 512))), (11, .int (iZ (buZ (nuC 1 t s r) (M 31)))), (0, .ref (wa w 30)), (1, .int (iZ 1)), (2, .int (iZ 2)), (3, .int (iZ 27)), (4, .int (iZ 13)), (5, .int (iZ (M 30 8))), (7, .int (iZ fe)), (8, .int (iZ ((t : Nat) : Int))), (9, .int (iZ ((s : Nat) : Int))), (10, .int (iZ ((r : Nat) : Int)))]) (by rw [hkL]; decide) rfl ?_
                                                        refine ww_iload C dX6_best_273 1 rfl ?_
                                                        refine ww_istore C dX6_best_275 (lv' := [(7, .int (iZ (difK (M 31) (keyZ (nuC 1 t s r) (M 31) 1) 512))), (6, .int (iZ (buZ (nuC 1 t s r) (M 31)))), (12, .int (iZ (difK (M 31) (keyZ (nuC 1 t s r) (M 31) 1) 512))), (11, .int (iZ (buZ (nuC 1 t s r) (M 31)))), (0, .ref (wa w 30)), (1, .int (iZ 1)), (2, .int (iZ 2)), (3, .int (iZ 27)), (4, .int (iZ 13)), (5, .int (iZ (M 30 8))), (8, .int (iZ ((t : Nat) : Int))), (9, .int (iZ ((s : Nat) : Int))), (10, .int (iZ ((r : Nat) : Int)))]) (by rw [hkL]; decide) rfl ?_
                                                        refine ww_iconst C dX6_best_277 ?_
                                                        refine ww_istore C dX6_best_278 (lv' := [(13, .int (iZ 0)), (7, .int (iZ (difK (M 31) (keyZ (nuC 1 t s r) (M 31) 1) 512))), (6, .int (iZ (buZ (nuC 1 t s r) (M 31)))), (12, .int (iZ (difK (M 31) (keyZ (nuC 1 t s r) (M 31) 1) 512))), (11, .int (iZ (buZ (nuC 1 t s r) (M 31)))), (0, .ref (wa w 30)), (1, .int (iZ 1)), (2, .int (iZ 2)), (3, .int (iZ 27)), (4, .int (iZ 13)), (5, .int (iZ (M 30 8))), (8, .int (iZ ((t : Nat) : Int))), (9, .int (iZ ((s : Nat) : Int))), (10, .int (iZ ((r : Nat) : Int)))]) (by rw [hkL]; decide) rfl ?_
                                                        have L_280 : ∀ (fuel : Nat) (k2 : Nat) (hk2 : k2 ≤ 9), 9 - k2 < fuel → WW w k 280 [(0, .ref (wa w 30)), (1, .int (iZ 1)), (2, .int (iZ 2)), (3, .int (iZ 27)), (4, .int (iZ 13)), (5, .int (iZ (M 30 8))), (6, .int (iZ (buZ (nuC 1 t s r) (M 31)))), (7, .int (iZ (difK (M 31) (keyZ (nuC 1 t s r) (M 31) 1) 512))), (8, .int (iZ ((t : Nat) : Int))), (9, .int (iZ ((s : Nat) : Int))), (10, .int (iZ ((r : Nat) : Int))), (13, .int (iZ ((k2 : Nat) : Int)))] [] (ups (ups (ups Mt 37 (nuC 1 t s r)) 40 ic_245) 43 (cpy k2 (nuC 1 t s r) (Mt 43))) := by
                                                          intro fuel
                                                          induction fuel with
                                                          | zero => intro k2 hk2 hf_280; exact absurd hf_280 (Nat.not_lt_zero _)
                                                          | succ fuel ih_280 =>
                                                            intro k2 hk2 hf_280
                                                            refine ww_iload C dX6_best_280 11 rfl ?_
                                                            refine ww_bipush C dX6_best_282 (by decide) ?_
                                                            refine ww_icmp_ge C 307 dX6_best_284 (by decide) (by omega) (by omega) (fun c_284 => ?_) (fun c_284 => ?_)
                                                            · refine ww_iinc2 C dX6_best_307 10 rfl (b := ((r + 1 : Nat) : Int)) (by omega) (lv' := [(10, .int (iZ ((r + 1 : Nat) : Int))), (0, .ref (wa w 30)), (1, .int (iZ 1)), (2, .int (iZ 2)), (3, .int (iZ 27)), (4, .int (iZ 13)), (5, .int (iZ (M 30 8))), (6, .int (iZ (buZ (nuC 1 t s r) (M 31)))), (7, .int (iZ (difK (M 31) (keyZ (nuC 1 t s r) (M 31) 1) 512))), (8, .int (iZ ((t : Nat) : Int))), (9, .int (iZ ((s : Nat) : Int))), (13, .int (iZ ((k2 : Nat) : Int)))]) (by rw [hkL]; decide) rfl ?_
                                                              refine ww_goto C 175 dX6_best_310 (by decide) ?_
                                                              refine ww_sub [1, 2, 3, 4, 5, 6, 7, 8, 9, 10, 0] rfl ?_
                                                              exact ih_175 (r + 1) (buZ (nuC 1 t s r) (M 31)) (difK (M 31) (keyZ (nuC 1 t s r) (M 31) 1) 512) (ups (ups (ups Mt 37 (nuC 1 t s r)) 40 ic_245) 43 (cpy k2 (nuC 1 t s r) (Mt 43))) (by omega) (frR_43 (frR_40 (frR_37 hfr))) (Nu2_3 (nuC_2 hb12 (by omega) (by omega) (by omega))) (fun q hq => nuC_9 hq) (hic_245) (by have e9 := RS_take (fd := Mt 43) (fd' := cpy k2 (nuC 1 t s r) (Mt 43)) hs hb12 (by show (t * 27 + s) * 27 + r < (27 * 27 + 0) * 27 + 0; omega) hrs (hacc.mpr hrig) (by rw [hbc.1, hbc.2]; omega) (fun j hj => by unfold cpy; rw [if_pos (by omega), nuO_ix hb12 (by omega) (by omega)]); rw [hbc.1, hbc.2] at e9; exact e9) (⟨rfl, rfl, rfl⟩) (⟨rfl, rfl, rfl⟩) (by omega)
                                                            · refine ww_aload_n C dX6_best_287 0 rfl ?_
                                                              refine gt_X6_51 C dX6_best_288 ?_
                                                              refine ww_iload C dX6_best_291 11 rfl ?_
                                                              refine ww_aload_n C dX6_best_293 0 rfl ?_
                                                              refine gt_X6_28 C dX6_best_294 ?_
                                                              refine ww_iload C dX6_best_297 11 rfl ?_
                                                              refine al_37 C k2 (z := (nuC 1 t s r) k2) rfl (by omega) rfl dX6_best_299 ?_
                                                              refine as_43 C k2 rfl (by omega) dX6_best_300 ?_
                                                              refine ww_mem (M1 := ups (ups (ups Mt 37 (nuC 1 t s r)) 40 ic_245) 43 (cpy (k2 + 1) (nuC 1 t s r) (Mt 43))) (by rw [ups_ups]; show ups (ups (ups Mt 37 (nuC 1 t s r)) 40 ic_245) 43 (up1 (cpy k2 (nuC 1 t s r) (Mt 43)) k2 ((nuC 1 t s r) k2)) = _; rw [cpy_s]) ?_
                                                              refine ww_iinc2 C dX6_best_301 11 rfl (b := ((k2 + 1 : Nat) : Int)) (by omega) (lv' := [(13, .int (iZ ((k2 + 1 : Nat) : Int))), (0, .ref (wa w 30)), (1, .int (iZ 1)), (2, .int (iZ 2)), (3, .int (iZ 27)), (4, .int (iZ 13)), (5, .int (iZ (M 30 8))), (6, .int (iZ (buZ (nuC 1 t s r) (M 31)))), (7, .int (iZ (difK (M 31) (keyZ (nuC 1 t s r) (M 31) 1) 512))), (8, .int (iZ ((t : Nat) : Int))), (9, .int (iZ ((s : Nat) : Int))), (10, .int (iZ ((r : Nat) : Int)))]) (by rw [hkL]; decide) rfl ?_
                                                              refine ww_goto C 280 dX6_best_304 (by decide) ?_
                                                              refine ww_sub [1, 2, 3, 4, 5, 6, 7, 8, 9, 10, 11, 0] rfl ?_
                                                              exact ih_280 (k2 + 1) (by omega) (by omega)
                                                        refine ww_sub [5, 6, 7, 8, 9, 10, 2, 1, 11, 12, 13, 0] rfl ?_
                                                        refine ww_mem (M1 := ups (ups (ups Mt 37 (nuC 1 t s r)) 40 ic_245) 43 (cpy 0 (nuC 1 t s r) (Mt 43))) (by rw [cpy_0]; exact (ups_id (M := ups (ups Mt 37 (nuC 1 t s r)) 40 ic_245) (h := 43)).symm) ?_
                                                        exact L_280 _ 0 (by omega) (Nat.lt_succ_self _)
                                                · refine ww_goto C 307 dX6_best_241 (by decide) ?_
                                                  refine ww_iinc2 C dX6_best_307 11 rfl (b := ((r + 1 : Nat) : Int)) (by omega) (lv' := [(10, .int (iZ ((r + 1 : Nat) : Int))), (11, .int (iZ (buZ (nuC 1 t s r) (M 31)))), (0, .ref (wa w 30)), (1, .int (iZ 1)), (2, .int (iZ 2)), (3, .int (iZ 27)), (4, .int (iZ 13)), (5, .int (iZ (M 30 8))), (6, .int (iZ le)), (7, .int (iZ fe)), (8, .int (iZ ((t : Nat) : Int))), (9, .int (iZ ((s : Nat) : Int)))]) (by rw [hkL]; decide) rfl ?_
                                                  refine ww_goto C 175 dX6_best_310 (by decide) ?_
                                                  refine ww_sub [2, 3, 4, 5, 6, 7, 8, 9, 10, 11, 0] rfl ?_
                                                  exact ih_175 (r + 1) le fe (ups Mt 37 (nuC 1 t s r)) (by omega) (frR_37 hfr) (Nu2_3 (nuC_2 hb12 (by omega) (by omega) (by omega))) (fun q hq => nuC_9 hq) (h40t) (RS_one hrs (fun a9 => by first | (exfalso; exact hnr (hacc.mp a9)) | (rw [hbc.1]; omega) | (exfalso; exact a9.2.2.1 rfl (by rw [(ix_d hb12 (by omega) (by omega)).2.2]; omega)))) (⟨rfl, rfl, rfl⟩) (⟨rfl, rfl, rfl⟩) (by omega)
                                            · have hnr : ¬ rigP (nuC 1 t s r) (M 31) (M 32) nv := fun h9 => by have e9 := hri_214.mpr h9; omega
                                              refine ww_goto C 307 dX6_best_220 (by decide) ?_
                                              refine ww_iinc2 C dX6_best_307 10 rfl (b := ((r + 1 : Nat) : Int)) (by omega) (lv' := [(10, .int (iZ ((r + 1 : Nat) : Int))), (0, .ref (wa w 30)), (1, .int (iZ 1)), (2, .int (iZ 2)), (3, .int (iZ 27)), (4, .int (iZ 13)), (5, .int (iZ (M 30 8))), (6, .int (iZ le)), (7, .int (iZ fe)), (8, .int (iZ ((t : Nat) : Int))), (9, .int (iZ ((s : Nat) : Int)))]) (by rw [hkL]; decide) rfl ?_
                                              refine ww_goto C 175 dX6_best_310 (by decide) ?_
                                              refine ww_sub [1, 2, 3, 4, 5, 6, 7, 8, 9, 10, 0] rfl ?_
                                              exact ih_175 (r + 1) le fe (ups Mt 37 (nuC 1 t s r)) (by omega) (frR_37 hfr) (Nu2_3 (nuC_2 hb12 (by omega) (by omega) (by omega))) (fun q hq => nuC_9 hq) (h40t) (RS_one hrs (fun a9 => by first | (exfalso; exact hnr (hacc.mp a9)) | (rw [hbc.1]; omega) | (exfalso; exact a9.2.2.1 rfl (by rw [(ix_d hb12 (by omega) (by omega)).2.2]; omega)))) (⟨rfl, rfl, rfl⟩) (⟨rfl, rfl, rfl⟩) (by omega)
                                    · exact absurd c_179 (by decide)
                                refine ww_sub [1, 2, 3, 4, 5, 6, 7, 8, 9, 10, 0] rfl ?_
                                exact L_175 _ 0 le fe (ups Mt 37 (up1 (up1 (up1 (Mt 37) 3 (spA 1 s)) 4 (spB 1 s)) 5 (spC 1 s))) (by omega) (frR_37 hfr) (nu3_up (q := 1) hb12 (by omega) h2) (z9_up (q := 1) (by omega) h9) (h40t) (RS_open hrs hb12 (by omega) (by omega) (by omega)) (ht0) (⟨rfl, rfl, rfl⟩) (Nat.lt_succ_self _)
                              · exact absurd c_164 (by decide)
                            · refine ww_goto C 313 dX6_best_151 (by decide) ?_
                              refine ww_iinc2 C dX6_best_313 9 rfl (b := ((s + 1 : Nat) : Int)) (by omega) (lv' := [(9, .int (iZ ((s + 1 : Nat) : Int))), (0, .ref (wa w 30)), (1, .int (iZ 1)), (2, .int (iZ 2)), (3, .int (iZ 27)), (4, .int (iZ 13)), (5, .int (iZ (M 30 8))), (6, .int (iZ le)), (7, .int (iZ fe)), (8, .int (iZ ((t : Nat) : Int)))]) (by rw [hkL]; decide) rfl ?_
                              refine ww_goto C 138 dX6_best_316 (by decide) ?_
                              refine ww_sub [1, 2, 3, 4, 5, 6, 7, 8, 9, 0] rfl ?_
                              exact ih_138 (s + 1) le fe Mt (by omega) (hfr) (h2) (h9) (h40t) (RS_close hrs hb12 (by omega) (by omega) (by omega)) (ht0) (by omega)
                      refine ww_sub [1, 2, 3, 4, 5, 6, 7, 8, 9, 0] rfl ?_
                      exact L_138 _ 0 le fe (ups Mt 37 (up1 (up1 (up1 (Mt 37) 0 (spA 1 t)) 1 (spB 1 t)) 2 (spC 1 t))) (by omega) (frR_37 hfr) (nu3_up (q := 0) hb12 (by omega) h2) (z9_up (q := 0) (by omega) h9) (h40t) (hrs) (⟨rfl, rfl, rfl⟩) (Nat.lt_succ_self _)
                    · refine ww_goto C 319 dX6_best_132 (by decide) ?_
                      refine ww_iinc2 C dX6_best_319 8 rfl (b := ((t + 1 : Nat) : Int)) (by omega) (lv' := [(8, .int (iZ ((t + 1 : Nat) : Int))), (0, .ref (wa w 30)), (1, .int (iZ 1)), (2, .int (iZ 2)), (3, .int (iZ 27)), (4, .int (iZ 13)), (5, .int (iZ (M 30 8))), (6, .int (iZ le)), (7, .int (iZ fe))]) (by rw [hkL]; decide) rfl ?_
                      refine ww_goto C 111 dX6_best_322 (by decide) ?_
                      refine ww_sub [1, 2, 3, 4, 5, 6, 7, 8, 0] rfl ?_
                      exact ih_111 (t + 1) le fe (ups Mt 37 (up1 (up1 (up1 (Mt 37) 0 (spA 1 t)) 1 (spB 1 t)) 2 (spC 1 t))) (by omega) (frR_37 hfr) (nu3_up (q := 0) hb12 (by omega) h2) (z9_up (q := 0) (by omega) h9) (h40t) (RS_ear (g := up1 (up1 (up1 (Mt 37) 0 (spA 1 t)) 1 (spB 1 t)) 2 (spC 1 t)) hrs hb12 ⟨rfl, rfl, rfl⟩ hf_126 (by omega)) (by omega)
              refine ww_sub [3, 4, 5, 6, 7, 8, 2, 1, 0] rfl ?_
              exact L_111 _ 0 (-1) 0 (ups (ups (ups M 42 (cpy 9 (M 37) (M 42))) 30 (up1 (M 30) 8 1)) 37 (up1 (up1 (up1 (M 37) 6 (spA 1 13)) 7 (spB 1 13)) 8 (spC 1 13))) (by omega) (frR_37 (frR_rf _)) (nu3_up (q := 2) hb12 (by omega) hnu) (z9_up (q := 2) (by omega) h37) (h40) (RS_0) (Nat.lt_succ_self _)
            · refine ww_aload_n C dX6_best_69 0 rfl ?_
              refine gt_X6_48 C dX6_best_70 ?_
              refine ww_iload C dX6_best_73 6 rfl ?_
              refine ww_aload_n C dX6_best_75 0 rfl ?_
              refine gt_X6_28 C dX6_best_76 ?_
              refine ww_iload C dX6_best_79 6 rfl ?_
              refine al_37 C k1 (z := M 37 k1) rfl (by omega) rfl dX6_best_81 ?_
              refine as_42 C k1 rfl (by omega) dX6_best_82 ?_
              refine ww_mem (M1 := ups M 42 (cpy (k1 + 1) (M 37) (M 42))) (by rw [ups_ups]; show ups M 42 (up1 (cpy k1 (M 37) (M 42)) k1 (M 37 k1)) = _; rw [cpy_s]) ?_
              refine ww_iinc2 C dX6_best_83 6 rfl (b := ((k1 + 1 : Nat) : Int)) (by omega) (lv' := [(6, .int (iZ ((k1 + 1 : Nat) : Int))), (0, .ref (wa w 30)), (1, .int (iZ 1)), (2, .int (iZ 2)), (3, .int (iZ 27)), (4, .int (iZ 13)), (5, .int (iZ (M 30 8)))]) (by rw [hkL]; decide) rfl ?_
              refine ww_goto C 62 dX6_best_86 (by decide) ?_
              refine ww_sub [1, 2, 3, 4, 5, 6, 0] rfl ?_
              exact ih_62 (k1 + 1) (by omega) (by omega)
        refine ww_sub [4, 5, 6, 3, 2, 1, 0] rfl ?_
        refine ww_mem (M1 := ups M 42 (cpy 0 (M 37) (M 42))) (by rw [cpy_0, ups_id]) ?_
        exact L_62 _ 0 (by omega) (Nat.lt_succ_self _)
      · exact absurd c_20 (by decide)
