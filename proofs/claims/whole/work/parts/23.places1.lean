set_option maxRecDepth 100000 in
set_option maxHeartbeats 4000000 in
theorem ct_X0_layPoints (w : WLD) (M : Mem) (np : Nat) (hf : 1 ≤ M 10 1 ∧ M 10 1 ≤ 8) (hnu : NuOk (M 11)) (hs : SzOk (M 2)) (hnp : M 1 2 = (np : Int)) (hcd : CdOk (M 2) (M 3) np) : CtV w yX0_layPoints cX0_layPoints 10 rm_X0_layPoints [.ref (wa w 12), .ref (wa w 1), .ref (wa w 10)] M (fun M1 => ∃ be ce se : Nat → Int, LayOk (M 11) (M 2) (M 10 1) be ce se ∧ M1 = ups (ups (ups M 13 be) 14 ce) 15 se) := by
  refine CtV.of (by decide) (Nat.le_of_ble_eq_true rfl) rfl rfl ?_
  intro k hkL C RT
  have l0 := lesZ_b (h := 0) hnu hs (by omega)
  have l1 := lesZ_b (h := 1) hnu hs (by omega)
  have l2 := lesZ_b (h := 2) hnu hs (by omega)
  have hnp9 := hcd.2.2.2.2
  show WW w k 0 [(0, .ref (wa w 12)), (1, .ref (wa w 1)), (2, .ref (wa w 10))] [] M
  refine ww_aload_n C dX0_layPoints_0 2 rfl ?_
  refine ww_iconst C dX0_layPoints_1 ?_
  refine ww_aload_n C dX0_layPoints_2 1 rfl ?_
  refine ww_callV C (As := [.int (iZ 0), .ref (wa w 1)]) 10 (pl_lt (Or.inl rfl)) (ct_X1_least w M 10 0 (Or.inl rfl) (hnu) (by omega) (hs)) mf_X1_least ml_X0_76 (pl_cell (Or.inl rfl) _) rfl (by decide) rfl rfl (Nat.le_of_ble_eq_true rfl) dX0_layPoints_3 (fun z_3 M_3 hp_3 => ?_)
  rw [hp_3.1, hp_3.2]
  refine ww_istore_n C dX0_layPoints_6 (lv' := [(3, .int (iZ (lesZ (M (10 + 1)) ((M 2)) 0))), (0, .ref (wa w 12)), (1, .ref (wa w 1)), (2, .ref (wa w 10))]) (by rw [hkL]; decide) rfl ?_
  refine ww_aload_n C dX0_layPoints_7 3 rfl ?_
  refine ww_iconst C dX0_layPoints_8 ?_
  refine ww_aload_n C dX0_layPoints_9 2 rfl ?_
  refine ww_callV C (As := [.int (iZ 1), .ref (wa w 1)]) 10 (pl_lt (Or.inl rfl)) (ct_X1_least w M 10 1 (Or.inl rfl) (hnu) (by omega) (hs)) mf_X1_least ml_X0_76 (pl_cell (Or.inl rfl) _) rfl (by decide) rfl rfl (Nat.le_of_ble_eq_true rfl) dX0_layPoints_10 (fun z_10 M_10 hp_10 => ?_)
  rw [hp_10.1, hp_10.2]
  refine ww_istore C dX0_layPoints_13 (lv' := [(4, .int (iZ (lesZ (M (10 + 1)) ((M 2)) 1))), (3, .int (iZ (lesZ (M (10 + 1)) ((M 2)) 0))), (0, .ref (wa w 12)), (1, .ref (wa w 1)), (2, .ref (wa w 10))]) (by rw [hkL]; decide) rfl ?_
  refine ww_aload_n C dX0_layPoints_15 4 rfl ?_
  refine ww_iconst C dX0_layPoints_16 ?_
  refine ww_aload_n C dX0_layPoints_17 3 rfl ?_
  refine ww_callV C (As := [.int (iZ 2), .ref (wa w 1)]) 10 (pl_lt (Or.inl rfl)) (ct_X1_least w M 10 2 (Or.inl rfl) (hnu) (by omega) (hs)) mf_X1_least ml_X0_76 (pl_cell (Or.inl rfl) _) rfl (by decide) rfl rfl (Nat.le_of_ble_eq_true rfl) dX0_layPoints_18 (fun z_18 M_18 hp_18 => ?_)
  rw [hp_18.1, hp_18.2]
  refine ww_istore C dX0_layPoints_21 (lv' := [(5, .int (iZ (lesZ (M (10 + 1)) ((M 2)) 2))), (4, .int (iZ (lesZ (M (10 + 1)) ((M 2)) 1))), (3, .int (iZ (lesZ (M (10 + 1)) ((M 2)) 0))), (0, .ref (wa w 12)), (1, .ref (wa w 1)), (2, .ref (wa w 10))]) (by rw [hkL]; decide) rfl ?_
  refine ww_iconst C dX0_layPoints_23 ?_
  refine ww_aload_n C dX0_layPoints_24 5 rfl ?_
  refine gt_X0_82 C (Or.inl rfl) dX0_layPoints_25 ?_
  refine ww_max C ml_X0_59 (by omega) (by omega) (by decide) (Nat.le_of_ble_eq_true rfl) dX0_layPoints_28 ?_
  refine ww_top (b := M 10 1) (by omega) ?_
  refine ww_istore C dX0_layPoints_31 (lv' := [(6, .int (iZ (M 10 1))), (5, .int (iZ (lesZ (M (10 + 1)) ((M 2)) 2))), (4, .int (iZ (lesZ (M (10 + 1)) ((M 2)) 1))), (3, .int (iZ (lesZ (M (10 + 1)) ((M 2)) 0))), (0, .ref (wa w 12)), (1, .ref (wa w 1)), (2, .ref (wa w 10))]) (by rw [hkL]; decide) rfl ?_
  refine ww_iconst C dX0_layPoints_33 ?_
  refine ww_istore C dX0_layPoints_34 (lv' := [(7, .int (iZ 0)), (6, .int (iZ (M 10 1))), (5, .int (iZ (lesZ (M (10 + 1)) ((M 2)) 2))), (4, .int (iZ (lesZ (M (10 + 1)) ((M 2)) 1))), (3, .int (iZ (lesZ (M (10 + 1)) ((M 2)) 0))), (0, .ref (wa w 12)), (1, .ref (wa w 1)), (2, .ref (wa w 10))]) (by rw [hkL]; decide) rfl ?_
  have L_36 : ∀ (fuel : Nat) (t : Nat) (be ce se : Nat → Int) (ht : t ≤ np) (hlt : ∀ u : Nat, u < t → be (M 3 u).toNat = beatZ (M 11) (M 2) (M 10 1) (M 3 u).toNat ∧ ce (M 3 u).toNat = cellZ (M 11) (M 2) (M 10 1) (M 3 u).toNat ∧ se (M 3 u).toNat = atZ (M 11) (M 2) 2 (M 3 u).toNat), np - t < fuel → WW w k 36 [(0, .ref (wa w 12)), (1, .ref (wa w 1)), (2, .ref (wa w 10)), (3, .int (iZ (lesZ (M 11) (M 2) 0))), (4, .int (iZ (lesZ (M 11) (M 2) 1))), (5, .int (iZ (lesZ (M 11) (M 2) 2))), (6, .int (iZ (M 10 1))), (7, .int (iZ ((t : Nat) : Int)))] [] (ups (ups (ups M 13 be) 14 ce) 15 se) := by
    intro fuel
    induction fuel with
    | zero => intro t be ce se ht hlt hf_36; exact absurd hf_36 (Nat.not_lt_zero _)
    | succ fuel ih_36 =>
      intro t be ce se ht hlt hf_36
      have hc1 := hcd.1 t
      refine ww_iload C dX0_layPoints_36 7 rfl ?_
      refine ww_aload_n C dX0_layPoints_38 1 rfl ?_
      refine gt_X0_51 C dX0_layPoints_39 ?_
      refine ww_top (b := ((np : Nat) : Int)) (hnp) ?_
      refine ww_icmp_ge C 126 dX0_layPoints_42 (by decide) (by omega) (by omega) (fun c_42 => ?_) (fun c_42 => ?_)
      · exact RT _ _ _ dX0_layPoints_126 (⟨be, ce, se, fun p9 hp9 => by obtain ⟨u, hu1, hu2⟩ := hcd.2.2.1 p9 (isP_lt hs hp9) hp9; have := hlt u (by omega); rw [hu2] at this; exact this, rfl⟩)
      · refine ww_aload_n C dX0_layPoints_45 1 rfl ?_
        refine gt_X0_56 C dX0_layPoints_46 ?_
        refine ww_iload C dX0_layPoints_49 7 rfl ?_
        refine al_3 C t (z := (((M 3 t).toNat : Nat) : Int)) rfl (by omega) ((hcd.1 t (by omega)).1) dX0_layPoints_51 ?_
        refine ww_istore C dX0_layPoints_52 (lv' := [(8, .int (iZ (((M 3 t).toNat : Nat) : Int))), (0, .ref (wa w 12)), (1, .ref (wa w 1)), (2, .ref (wa w 10)), (3, .int (iZ (lesZ (M 11) (M 2) 0))), (4, .int (iZ (lesZ (M 11) (M 2) 1))), (5, .int (iZ (lesZ (M 11) (M 2) 2))), (6, .int (iZ (M 10 1))), (7, .int (iZ ((t : Nat) : Int)))]) (by rw [hkL]; decide) rfl ?_
        refine ww_aload_n C dX0_layPoints_54 3 rfl ?_
        refine ww_iconst C dX0_layPoints_55 ?_
        refine ww_iload C dX0_layPoints_56 0 rfl ?_
        refine ww_callV C (As := [.int (iZ 1), .int (iZ (((M 3 t).toNat : Nat) : Int))]) 10 (pl_lt (Or.inl rfl)) (ct_X1_timesCode w (ups (ups (ups M 13 be) 14 ce) 15 se) 10 1 ((M 3 t).toNat) (show pl 10 from Or.inl rfl) (show 1 < 3 from by omega) (show ((M 3 t).toNat) < 512 from (hc1 (by omega)).2.1)) mf_X1_timesCode ml_X0_85 (pl_cell (Or.inl rfl) _) rfl (by decide) rfl rfl (Nat.le_of_ble_eq_true rfl) dX0_layPoints_58 (fun z_58 M_58 hp_58 => ?_)
        rw [hp_58.1, hp_58.2]
        refine ww_top (b := dotP ((ups (ups (ups M 13 be) 14 ce) 15 se) (10 + 1)) 1 ((M 3 t).toNat)) rfl ?_
        refine ww_iload C dX0_layPoints_61 5 rfl ?_
        refine ww_isub C dX0_layPoints_63 ?_
        refine ww_top (b := atZ (M 11) (M 2) 1 (M 3 t).toNat) (rfl) ?_
        refine ww_istore C dX0_layPoints_64 (lv' := [(9, .int (iZ (atZ (M 11) (M 2) 1 (M 3 t).toNat))), (8, .int (iZ (((M 3 t).toNat : Nat) : Int))), (0, .ref (wa w 12)), (1, .ref (wa w 1)), (2, .ref (wa w 10)), (3, .int (iZ (lesZ (M 11) (M 2) 0))), (4, .int (iZ (lesZ (M 11) (M 2) 1))), (5, .int (iZ (lesZ (M 11) (M 2) 2))), (6, .int (iZ (M 10 1))), (7, .int (iZ ((t : Nat) : Int)))]) (by rw [hkL]; decide) rfl ?_
        have g0 := atZ_b (h := 0) hnu hs (by omega) (hc1 (by omega)).2.2
        have g1 := atZ_b (h := 1) hnu hs (by omega) (hc1 (by omega)).2.2
        have hc2 := (hc1 (by omega)).2.1
        refine ww_aload_n C dX0_layPoints_66 2 rfl ?_
        refine gt_X0_9 C dX0_layPoints_67 ?_
        refine ww_iload C dX0_layPoints_70 1 rfl ?_
        refine ww_iload C dX0_layPoints_72 8 rfl ?_
        refine ww_aload_n C dX0_layPoints_74 4 rfl ?_
        refine ww_iconst C dX0_layPoints_75 ?_
        refine ww_iload C dX0_layPoints_76 1 rfl ?_
        refine ww_callV C (As := [.int (iZ 0), .int (iZ (((M 3 t).toNat : Nat) : Int))]) 10 (pl_lt (Or.inl rfl)) (ct_X1_timesCode w (ups (ups (ups M 13 be) 14 ce) 15 se) 10 0 ((M 3 t).toNat) (show pl 10 from Or.inl rfl) (show 0 < 3 from by omega) (show ((M 3 t).toNat) < 512 from (hc1 (by omega)).2.1)) mf_X1_timesCode ml_X0_85 (pl_cell (Or.inl rfl) _) rfl (by decide) rfl rfl (Nat.le_of_ble_eq_true rfl) dX0_layPoints_78 (fun z_78 M_78 hp_78 => ?_)
        rw [hp_78.1, hp_78.2]
        refine ww_top (b := dotP ((ups (ups (ups M 13 be) 14 ce) 15 se) (10 + 1)) 0 ((M 3 t).toNat)) rfl ?_
        refine ww_iload_n C dX0_layPoints_81 5 rfl ?_
        refine ww_isub C dX0_layPoints_82 ?_
        refine ww_top (b := atZ (M 11) (M 2) 0 (M 3 t).toNat) (rfl) ?_
        refine ww_imul C dX0_layPoints_83 ?_
        refine ww_iload C dX0_layPoints_84 0 rfl ?_
        refine ww_iload C dX0_layPoints_86 8 rfl ?_
        refine ww_iremN C dX0_layPoints_88 (by omega) (by omega) ?_
        refine ww_iadd C dX0_layPoints_89 ?_
        refine ww_top (b := beatZ (M 11) (M 2) (M 10 1) (M 3 t).toNat) (rfl) ?_
        refine as_13 C ((M 3 t).toNat) rfl (by omega) dX0_layPoints_90 ?_
        refine ww_mem (M1 := ups (ups (ups M 13 (up1 be ((M 3 t).toNat) (beatZ (M 11) (M 2) (M 10 1) (M 3 t).toNat))) 14 ce) 15 se) (((ups_comm (by decide)).trans (congrArg (fun X9 => ups X9 15 se) ((ups_comm (by decide)).trans (congrArg (fun X9 => ups X9 14 ce) ups_ups))))) ?_
        refine ww_aload_n C dX0_layPoints_91 2 rfl ?_
        refine gt_X0_15 C dX0_layPoints_92 ?_
        refine ww_iload C dX0_layPoints_95 1 rfl ?_
        refine ww_iload C dX0_layPoints_97 0 rfl ?_
        refine ww_iload C dX0_layPoints_99 8 rfl ?_
        refine ww_idivN C dX0_layPoints_101 (by omega) (by omega) ?_
        refine ww_top (b := cellZ (M 11) (M 2) (M 10 1) (M 3 t).toNat) (rfl) ?_
        refine as_14 C ((M 3 t).toNat) rfl (by omega) dX0_layPoints_102 ?_
        refine ww_mem (M1 := ups (ups (ups M 13 (up1 be ((M 3 t).toNat) (beatZ (M 11) (M 2) (M 10 1) (M 3 t).toNat))) 14 (up1 ce ((M 3 t).toNat) (cellZ (M 11) (M 2) (M 10 1) (M 3 t).toNat))) 15 se) (((ups_comm (by decide)).trans (congrArg (fun X9 => ups X9 15 se) ups_ups))) ?_
        refine ww_aload_n C dX0_layPoints_103 2 rfl ?_
        refine gt_X0_18 C dX0_layPoints_104 ?_
        refine ww_iload C dX0_layPoints_107 1 rfl ?_
        refine ww_aload_n C dX0_layPoints_109 4 rfl ?_
        refine ww_iconst C dX0_layPoints_110 ?_
        refine ww_iload C dX0_layPoints_111 1 rfl ?_
        refine ww_callV C (As := [.int (iZ 2), .int (iZ (((M 3 t).toNat : Nat) : Int))]) 10 (pl_lt (Or.inl rfl)) (ct_X1_timesCode w (ups (ups (ups M 13 (up1 be ((M 3 t).toNat) (beatZ (M 11) (M 2) (M 10 1) (M 3 t).toNat))) 14 (up1 ce ((M 3 t).toNat) (cellZ (M 11) (M 2) (M 10 1) (M 3 t).toNat))) 15 se) 10 2 ((M 3 t).toNat) (show pl 10 from Or.inl rfl) (show 2 < 3 from by omega) (show ((M 3 t).toNat) < 512 from (hc1 (by omega)).2.1)) mf_X1_timesCode ml_X0_85 (pl_cell (Or.inl rfl) _) rfl (by decide) rfl rfl (Nat.le_of_ble_eq_true rfl) dX0_layPoints_113 (fun z_113 M_113 hp_113 => ?_)
        rw [hp_113.1, hp_113.2]
        refine ww_top (b := dotP ((ups (ups (ups M 13 (up1 be ((M 3 t).toNat) (beatZ (M 11) (M 2) (M 10 1) (M 3 t).toNat))) 14 (up1 ce ((M 3 t).toNat) (cellZ (M 11) (M 2) (M 10 1) (M 3 t).toNat))) 15 se) (10 + 1)) 2 ((M 3 t).toNat)) rfl ?_
        refine ww_iload C dX0_layPoints_116 7 rfl ?_
        refine ww_isub C dX0_layPoints_118 ?_
        refine ww_top (b := atZ (M 11) (M 2) 2 (M 3 t).toNat) (rfl) ?_
        refine as_15 C ((M 3 t).toNat) rfl (by omega) dX0_layPoints_119 ?_
        refine ww_mem (M1 := ups (ups (ups M 13 (up1 be ((M 3 t).toNat) (beatZ (M 11) (M 2) (M 10 1) (M 3 t).toNat))) 14 (up1 ce ((M 3 t).toNat) (cellZ (M 11) (M 2) (M 10 1) (M 3 t).toNat))) 15 (up1 se ((M 3 t).toNat) (atZ (M 11) (M 2) 2 (M 3 t).toNat))) (ups_ups) ?_
        refine ww_iinc2 C dX0_layPoints_120 9 rfl (b := ((t + 1 : Nat) : Int)) (by omega) (lv' := [(7, .int (iZ ((t + 1 : Nat) : Int))), (9, .int (iZ (atZ (M 11) (M 2) 1 (M 3 t).toNat))), (8, .int (iZ (((M 3 t).toNat : Nat) : Int))), (0, .ref (wa w 12)), (1, .ref (wa w 1)), (2, .ref (wa w 10)), (3, .int (iZ (lesZ (M 11) (M 2) 0))), (4, .int (iZ (lesZ (M 11) (M 2) 1))), (5, .int (iZ (lesZ (M 11) (M 2) 2))), (6, .int (iZ (M 10 1)))]) (by rw [hkL]; decide) rfl ?_
        refine ww_goto C 36 dX0_layPoints_123 (by decide) ?_
        refine ww_sub [3, 4, 5, 6, 7, 8, 9, 0] rfl ?_
        exact ih_36 (t + 1) (up1 be (M 3 t).toNat (beatZ (M 11) (M 2) (M 10 1) (M 3 t).toNat)) (up1 ce (M 3 t).toNat (cellZ (M 11) (M 2) (M 10 1) (M 3 t).toNat)) (up1 se (M 3 t).toNat (atZ (M 11) (M 2) 2 (M 3 t).toNat)) (by omega) (fun u h9 => by rcases Nat.lt_succ_iff_lt_or_eq.mp h9 with h9 | rfl; (have a9 := hcd.2.1 u t h9 (by omega); rw [up1_n (by omega), up1_n (by omega), up1_n (by omega)]; exact hlt u h9); (rw [up1_s, up1_s, up1_s]; exact ⟨rfl, rfl, rfl⟩)) (by omega)
  refine ww_sub [5, 6, 7, 4, 3, 2, 1, 0] rfl ?_
  refine ww_mem (M1 := ups (ups (ups M 13 (M 13)) 14 (M 14)) 15 (M 15)) (by rw [ups_id, ups_id, ups_id]) ?_
  exact L_36 _ 0 (M 13) (M 14) (M 15) (by omega) (fun u h9 => absurd h9 (Nat.not_lt_zero _)) (Nat.lt_succ_self _)
set_option maxRecDepth 100000 in
set_option maxHeartbeats 4000000 in
theorem ct_X0_cellKey (w : WLD) (M : Mem) (p : Nat) (hp : p < 512) : CtI w yX0_cellKey cX0_cellKey 2 (some .int) rm_X0_cellKey [.ref (wa w 12), .int (iZ ((p : Nat) : Int))] M (fun z M1 => z = 64 * M 14 p + M 15 p ∧ M1 = M) := by
  refine CtI.of (by decide) (Nat.le_of_ble_eq_true rfl) rfl rfl ?_
  intro k hkL C RT
  show WW w k 0 [(0, .ref (wa w 12)), (1, .int (iZ ((p : Nat) : Int)))] [] M
  refine ww_bipush C dX0_cellKey_0 (by decide) ?_
  refine ww_aload_n C dX0_cellKey_2 0 rfl ?_
  refine gt_X0_15 C dX0_cellKey_3 ?_
  refine ww_iload_n C dX0_cellKey_6 1 rfl ?_
  refine al_14 C p (z := M 14 p) rfl (by omega) rfl dX0_cellKey_7 ?_
  refine ww_imul C dX0_cellKey_8 ?_
  refine ww_aload_n C dX0_cellKey_9 0 rfl ?_
  refine gt_X0_18 C dX0_cellKey_10 ?_
  refine ww_iload_n C dX0_cellKey_13 1 rfl ?_
  refine al_15 C p (z := M 15 p) rfl (by omega) rfl dX0_cellKey_14 ?_
  refine ww_iadd C dX0_cellKey_15 ?_
  exact RT _ _ _ _ dX0_cellKey_16 (⟨rfl, rfl⟩)
set_option maxRecDepth 100000 in
set_option maxHeartbeats 4000000 in
theorem ct_X0_link (w : WLD) (M : Mem) (p kk : Nat) (hp : p < 512) (hk : 64 * M 14 p + M 15 p = (kk : Int)) (hk2 : kk < 4096) (hr : R32 (M 16 kk)) : CtV w yX0_link cX0_link 3 rm_X0_link [.ref (wa w 12), .int (iZ ((p : Nat) : Int))] M (fun M1 => M1 = ups (ups (ups M 12 (up1 (M 12) 5 (M 12 5 + b2i (M 16 kk = 0)))) 17 (up1 (M 17) p (M 16 kk))) 16 (up1 (M 16) kk ((p : Int) + 1))) := by
  refine CtV.of (by decide) (Nat.le_of_ble_eq_true rfl) rfl rfl ?_
  intro k hkL C RT
  show WW w k 0 [(0, .ref (wa w 12)), (1, .int (iZ ((p : Nat) : Int)))] [] M
  refine ww_aload_n C dX0_link_0 0 rfl ?_
  refine ww_iload_n C dX0_link_1 1 rfl ?_
  refine ww_callV C (As := [.int (iZ ((p : Nat) : Int))]) 12 (by decide) (ct_X0_cellKey w M p (by omega)) mf_X0_cellKey ml_X0_73 rfl rfl (by decide) rfl rfl (Nat.le_of_ble_eq_true rfl) dX0_link_2 (fun z_2 M_2 hp_2 => ?_)
  rw [hp_2.1, hp_2.2]
  refine ww_top (b := ((kk : Nat) : Int)) (hk) ?_
  refine ww_istore_n C dX0_link_5 (lv' := [(2, .int (iZ ((kk : Nat) : Int))), (0, .ref (wa w 12)), (1, .int (iZ ((p : Nat) : Int)))]) (by rw [hkL]; decide) rfl ?_
  refine ww_aload_n C dX0_link_6 1 rfl ?_
  refine gt_X0_32 C dX0_link_7 ?_
  refine ww_iload_n C dX0_link_10 0 rfl ?_
  refine al_16 C kk (z := M 16 kk) rfl (by omega) rfl dX0_link_11 ?_
  refine ww_if_ne C 25 dX0_link_12 (by decide) (by omega) (fun c_12 => ?_) (fun c_12 => ?_)
  · refine ww_aload_n C dX0_link_25 1 rfl ?_
    refine gt_X0_35 C dX0_link_26 ?_
    refine ww_iload_n C dX0_link_29 2 rfl ?_
    refine ww_aload_n C dX0_link_30 1 rfl ?_
    refine gt_X0_32 C dX0_link_31 ?_
    refine ww_iload_n C dX0_link_34 0 rfl ?_
    refine al_16 C kk (z := M 16 kk) rfl (by omega) rfl dX0_link_35 ?_
    refine as_17 C p rfl (by omega) dX0_link_36 ?_
    refine ww_aload_n C dX0_link_37 1 rfl ?_
    refine gt_X0_32 C dX0_link_38 ?_
    refine ww_iload_n C dX0_link_41 0 rfl ?_
    refine ww_iload_n C dX0_link_42 2 rfl ?_
    refine ww_iconst C dX0_link_43 ?_
    refine ww_iadd C dX0_link_44 ?_
    refine as_16 C kk rfl (by omega) dX0_link_45 ?_
    refine ww_mem (M1 := ups (ups M 17 (up1 (M 17) p (M 16 kk))) 16 (up1 (M 16) kk (((p : Nat) : Int) + 1))) rfl ?_
    exact RT _ _ _ dX0_link_46 (by first | rw [b2i_t c_12] | rw [b2i_f c_12, Int.add_zero, up1_id, ups_id])
  · refine ww_aload_n C dX0_link_15 1 rfl ?_
    refine ww_dup C dX0_link_16 rfl ?_
    refine gt_X0_48 C dX0_link_17 ?_
    refine ww_iconst C dX0_link_20 ?_
    refine ww_iadd C dX0_link_21 ?_
    refine pt_X0_48 C dX0_link_22 ?_
    refine ww_aload_n C dX0_link_25 1 rfl ?_
    refine gt_X0_35 C dX0_link_26 ?_
    refine ww_iload_n C dX0_link_29 2 rfl ?_
    refine ww_aload_n C dX0_link_30 1 rfl ?_
    refine gt_X0_32 C dX0_link_31 ?_
    refine ww_iload_n C dX0_link_34 0 rfl ?_
    refine al_16 C kk (z := M 16 kk) rfl (by omega) rfl dX0_link_35 ?_
    refine as_17 C p rfl (by omega) dX0_link_36 ?_
    refine ww_mem (M1 := ups (ups M 12 (up1 (M 12) 5 ((M 12 5) + 1))) 17 (up1 (M 17) p (M 16 kk))) rfl ?_
    refine ww_aload_n C dX0_link_37 1 rfl ?_
    refine gt_X0_32 C dX0_link_38 ?_
    refine ww_iload_n C dX0_link_41 0 rfl ?_
    refine ww_iload_n C dX0_link_42 2 rfl ?_
    refine ww_iconst C dX0_link_43 ?_
    refine ww_iadd C dX0_link_44 ?_
    refine as_16 C kk rfl (by omega) dX0_link_45 ?_
    refine ww_mem (M1 := ups (ups (ups M 12 (up1 (M 12) 5 ((M 12 5) + 1))) 17 (up1 (M 17) p (M 16 kk))) 16 (up1 (M 16) kk (((p : Nat) : Int) + 1))) rfl ?_
    exact RT _ _ _ dX0_link_46 (by first | rw [b2i_t c_12] | rw [b2i_f c_12, Int.add_zero, up1_id, ups_id])
set_option maxRecDepth 100000 in
set_option maxHeartbeats 4000000 in
theorem ct_X0_metBy (w : WLD) (M : Mem) (K : Nat → Int) (p : Nat) (hah : ∀ u : Nat, u ≤ p → isP (M 2) u → lastR (M 2) K (K u) u (M 17 u)) (hbe : ∀ u : Nat, isP (M 2) u → R32 (M 13 u) ∧ 0 ≤ M 13 u ∧ M 13 u < 512) (hs : SzOk (M 2)) (hpp : isP (M 2) p) : CtI w yX0_metBy cX0_metBy 4 (some .int) rm_X0_metBy [.ref (wa w 12), .int (iZ ((p : Nat) : Int))] M (fun z M1 => mbR (M 2) K (M 13) p z ∧ M1 = M) := by
  refine CtI.of (by decide) (Nat.le_of_ble_eq_true rfl) rfl rfl ?_
  intro k hkL C RT
  have hpb := lastR_b (hah p (Nat.le_refl _) hpp)
  have hp5 := isP_lt hs hpp
  show WW w k 0 [(0, .ref (wa w 12)), (1, .int (iZ ((p : Nat) : Int)))] [] M
  refine ww_aload_n C dX0_metBy_0 0 rfl ?_
  refine gt_X0_35 C dX0_metBy_1 ?_
  refine ww_iload_n C dX0_metBy_4 1 rfl ?_
  refine al_17 C p (z := M 17 p) rfl (by omega) rfl dX0_metBy_5 ?_
  refine ww_iconst C dX0_metBy_6 ?_
  refine ww_isub C dX0_metBy_7 ?_
  refine ww_istore_n C dX0_metBy_8 (lv' := [(2, .int (iZ ((M 17 p) - 1))), (0, .ref (wa w 12)), (1, .int (iZ ((p : Nat) : Int)))]) (by rw [hkL]; decide) rfl ?_
  refine ww_iconst C dX0_metBy_9 ?_
  refine ww_istore_n C dX0_metBy_10 (lv' := [(3, .int (iZ 0)), (2, .int (iZ ((M 17 p) - 1))), (0, .ref (wa w 12)), (1, .int (iZ ((p : Nat) : Int)))]) (by rw [hkL]; decide) rfl ?_
  have L_11 : ∀ (fuel : Nat) (n b : Nat) (x : Int) (hn : n + b ≤ p) (hlr : lastR (M 2) K (K p) b (x + 1)) (hno : ∀ u : Nat, b ≤ u → u < p → isP (M 2) u → K u = K p → M 13 u ≠ M 13 p), 512 - n < fuel → WW w k 11 [(0, .ref (wa w 12)), (1, .int (iZ ((p : Nat) : Int))), (2, .int (iZ x)), (3, .int (iZ ((n : Nat) : Int)))] [] M := by
    intro fuel
    induction fuel with
    | zero => intro n b x hn hlr hno hf_11; exact absurd hf_11 (Nat.not_lt_zero _)
    | succ fuel ih_11 =>
      intro n b x hn hlr hno hf_11
      have hxb := lastR_b hlr
      have hp5 := isP_lt hs hpp
      have hbp := hbe p hpp
      have hq : x ≠ -1 → ∃ q : Nat, x = (q : Int) ∧ q < b ∧ isP (M 2) q ∧ K q = K p ∧ ∀ r : Nat, q < r → r < b → isP (M 2) r → K r ≠ K p := by
        intro h9
        rcases hlr with ⟨e9, -⟩ | ⟨q, a1, a2, a3, a4, a5⟩
        · omega
        · exact ⟨q, by omega, a1, a3, a4, a5⟩
      refine ww_iload_n C dX0_metBy_11 3 rfl ?_
      refine ww_sipush C dX0_metBy_12 (by decide) ?_
      refine ww_icmp_ge C 55 dX0_metBy_15 (by decide) (by omega) (by omega) (fun c_15 => ?_) (fun c_15 => ?_)
      · refine ww_iconst C dX0_metBy_55 ?_
        exact RT _ _ _ _ dX0_metBy_56 (⟨Or.inl ⟨rfl, fun u h9 => by have hu := h9.1; rcases Nat.lt_or_ge u b with b9 | b9; (rcases hlr with ⟨e9, f9⟩ | ⟨q, a1, a2, a3, a4, a5⟩; exact f9 u b9 h9.2.1 h9.2.2.2.1; omega); exact hno u b9 hu h9.2.1 h9.2.2.2.1 h9.2.2.2.2⟩, rfl⟩)
      · refine ww_iload_n C dX0_metBy_18 2 rfl ?_
        refine ww_iconst C dX0_metBy_19 ?_
        refine ww_icmp_eq C 55 dX0_metBy_20 (by decide) (by omega) (by omega) (fun c_20 => ?_) (fun c_20 => ?_)
        · refine ww_iconst C dX0_metBy_55 ?_
          exact RT _ _ _ _ dX0_metBy_56 (⟨Or.inl ⟨rfl, fun u h9 => by have hu := h9.1; rcases Nat.lt_or_ge u b with b9 | b9; (rcases hlr with ⟨e9, f9⟩ | ⟨q, a1, a2, a3, a4, a5⟩; exact f9 u b9 h9.2.1 h9.2.2.2.1; omega); exact hno u b9 hu h9.2.1 h9.2.2.2.1 h9.2.2.2.2⟩, rfl⟩)
        · obtain ⟨qq, hqx, hq1, hq2, hq3, hq4⟩ := hq c_20
          clear hq
          have hq5 := isP_lt hs hq2
          have hbq := hbe qq hq2
          have hxq := lastR_b (hah qq (by omega) hq2)
          refine ww_aload_n C dX0_metBy_23 0 rfl ?_
          refine gt_X0_9 C dX0_metBy_24 ?_
          refine ww_iload_n C dX0_metBy_27 2 rfl ?_
          refine al_13 C qq (z := M 13 qq) (hqx) (by omega) rfl dX0_metBy_28 ?_
          refine ww_aload_n C dX0_metBy_29 0 rfl ?_
          refine gt_X0_9 C dX0_metBy_30 ?_
          refine ww_iload_n C dX0_metBy_33 1 rfl ?_
          refine al_13 C p (z := M 13 p) rfl (by omega) rfl dX0_metBy_34 ?_
          refine ww_icmp_ne C 40 dX0_metBy_35 (by decide) (by omega) (by omega) (fun c_35 => ?_) (fun c_35 => ?_)
          · refine ww_aload_n C dX0_metBy_40 0 rfl ?_
            refine gt_X0_35 C dX0_metBy_41 ?_
            refine ww_iload_n C dX0_metBy_44 2 rfl ?_
            refine al_17 C qq (z := M 17 qq) (hqx) (by omega) rfl dX0_metBy_45 ?_
            refine ww_iconst C dX0_metBy_46 ?_
            refine ww_isub C dX0_metBy_47 ?_
            refine ww_istore_n C dX0_metBy_48 (lv' := [(2, .int (iZ ((M 17 qq) - 1))), (0, .ref (wa w 12)), (1, .int (iZ ((p : Nat) : Int))), (3, .int (iZ ((n : Nat) : Int)))]) (by rw [hkL]; decide) rfl ?_
            refine ww_iinc2 C dX0_metBy_49 3 rfl (b := ((n + 1 : Nat) : Int)) (by omega) (lv' := [(3, .int (iZ ((n + 1 : Nat) : Int))), (2, .int (iZ ((M 17 qq) - 1))), (0, .ref (wa w 12)), (1, .int (iZ ((p : Nat) : Int)))]) (by rw [hkL]; decide) rfl ?_
            refine ww_goto C 11 dX0_metBy_52 (by decide) ?_
            refine ww_sub [2, 3, 1, 0] rfl ?_
            exact ih_11 (n + 1) qq ((M 17 qq) - 1) (by omega) (by rw [show M 17 qq - 1 + 1 = M 17 qq by omega, ← hq3]; exact hah qq (by omega) hq2) (fun u h7 h8 h9 h10 => by rcases Nat.lt_trichotomy u qq with a9 | a9 | a9; omega; (rw [a9]; exact c_35); (rcases Nat.lt_or_ge u b with b9 | b9; exact absurd h10 (hq4 u a9 b9 h9); exact hno u b9 h8 h9 h10)) (by omega)
          · refine ww_iload_n C dX0_metBy_38 2 rfl ?_
            exact RT _ _ _ _ dX0_metBy_39 (⟨Or.inr ⟨qq, hqx, by omega, hq2, hpp, hq3, c_35⟩, rfl⟩)
  refine ww_sub [2, 3, 1, 0] rfl ?_
  exact L_11 _ 0 p (M 17 p - 1) (by omega) (by rw [show M 17 p - 1 + 1 = M 17 p by omega]; exact hah p (Nat.le_refl _) hpp) (fun u h8 h9 => by omega) (Nat.lt_succ_self _)
set_option maxRecDepth 100000 in
set_option maxHeartbeats 4000000 in
theorem ct_X0_markBetween (w : WLD) (M : Mem) (K : Nat → Int) (p : Nat) (hah : ∀ u : Nat, u ≤ p → isP (M 2) u → lastR (M 2) K (K u) u (M 17 u)) (hbe : ∀ u : Nat, isP (M 2) u → R32 (M 13 u) ∧ 0 ≤ M 13 u ∧ M 13 u < 512) (hs : SzOk (M 2)) (hpp : isP (M 2) p) (hb0 : ∀ d : Nat, M 18 d = 0 ∨ M 18 d = 1) : CtV w yX0_markBetween cX0_markBetween 4 rm_X0_markBetween [.ref (wa w 12), .int (iZ ((p : Nat) : Int))] M (fun M1 => ∃ bt : Nat → Int, (∀ d : Nat, (bt d = 0 ∨ bt d = 1) ∧ (bt d = 1 ↔ M 18 d = 1 ∨ ∃ u : Nat, u < p ∧ isP (M 2) u ∧ K u = K p ∧ aZ (M 13 p - M 13 u) = (d : Int))) ∧ M1 = ups M 18 bt) := by
  refine CtV.of (by decide) (Nat.le_of_ble_eq_true rfl) rfl rfl ?_
  intro k hkL C RT
  have hpb := lastR_b (hah p (Nat.le_refl _) hpp)
  have hp5 := isP_lt hs hpp
  show WW w k 0 [(0, .ref (wa w 12)), (1, .int (iZ ((p : Nat) : Int)))] [] M
  refine ww_aload_n C dX0_markBetween_0 0 rfl ?_
  refine gt_X0_35 C dX0_markBetween_1 ?_
  refine ww_iload_n C dX0_markBetween_4 1 rfl ?_
  refine al_17 C p (z := M 17 p) rfl (by omega) rfl dX0_markBetween_5 ?_
  refine ww_iconst C dX0_markBetween_6 ?_
  refine ww_isub C dX0_markBetween_7 ?_
  refine ww_istore_n C dX0_markBetween_8 (lv' := [(2, .int (iZ ((M 17 p) - 1))), (0, .ref (wa w 12)), (1, .int (iZ ((p : Nat) : Int)))]) (by rw [hkL]; decide) rfl ?_
  refine ww_iconst C dX0_markBetween_9 ?_
  refine ww_istore_n C dX0_markBetween_10 (lv' := [(3, .int (iZ 0)), (2, .int (iZ ((M 17 p) - 1))), (0, .ref (wa w 12)), (1, .int (iZ ((p : Nat) : Int)))]) (by rw [hkL]; decide) rfl ?_
  have L_11 : ∀ (fuel : Nat) (n b : Nat) (x : Int) (bt : Nat → Int) (hn : n + b ≤ p) (hlr : lastR (M 2) K (K p) b (x + 1)) (hbt : ∀ d : Nat, (bt d = 0 ∨ bt d = 1) ∧ (bt d = 1 ↔ M 18 d = 1 ∨ ∃ u : Nat, b ≤ u ∧ u < p ∧ isP (M 2) u ∧ K u = K p ∧ aZ (M 13 p - M 13 u) = (d : Int))), 512 - n < fuel → WW w k 11 [(0, .ref (wa w 12)), (1, .int (iZ ((p : Nat) : Int))), (2, .int (iZ x)), (3, .int (iZ ((n : Nat) : Int)))] [] (ups M 18 bt) := by
    intro fuel
    induction fuel with
    | zero => intro n b x bt hn hlr hbt hf_11; exact absurd hf_11 (Nat.not_lt_zero _)
    | succ fuel ih_11 =>
      intro n b x bt hn hlr hbt hf_11
      have hxb := lastR_b hlr
      have hp5 := isP_lt hs hpp
      have hbp := hbe p hpp
      have hq : x ≠ -1 → ∃ q : Nat, x = (q : Int) ∧ q < b ∧ isP (M 2) q ∧ K q = K p ∧ ∀ r : Nat, q < r → r < b → isP (M 2) r → K r ≠ K p := by
        intro h9
        rcases hlr with ⟨e9, -⟩ | ⟨q, a1, a2, a3, a4, a5⟩
        · omega
        · exact ⟨q, by omega, a1, a3, a4, a5⟩
      refine ww_iload_n C dX0_markBetween_11 3 rfl ?_
      refine ww_sipush C dX0_markBetween_12 (by decide) ?_
      refine ww_icmp_ge C 60 dX0_markBetween_15 (by decide) (by omega) (by omega) (fun c_15 => ?_) (fun c_15 => ?_)
      · exact RT _ _ _ dX0_markBetween_60 (⟨bt, fun d => ⟨(hbt d).1, (hbt d).2.trans ⟨fun h9 => h9.elim Or.inl (fun ⟨u, a1, a2, a3⟩ => Or.inr ⟨u, a2, a3⟩), fun h9 => h9.elim Or.inl (fun ⟨u, a2, a3, a4, a5⟩ => Or.inr ⟨u, Nat.le_of_not_lt (fun b9 => by rcases hlr with ⟨e9, f9⟩ | ⟨q, a1, a2, a3, a4, a5⟩; exact f9 u b9 a3 a4; omega), a2, a3, a4, a5⟩)⟩⟩, rfl⟩)
      · refine ww_iload_n C dX0_markBetween_18 2 rfl ?_
        refine ww_iconst C dX0_markBetween_19 ?_
        refine ww_icmp_eq C 60 dX0_markBetween_20 (by decide) (by omega) (by omega) (fun c_20 => ?_) (fun c_20 => ?_)
        · exact RT _ _ _ dX0_markBetween_60 (⟨bt, fun d => ⟨(hbt d).1, (hbt d).2.trans ⟨fun h9 => h9.elim Or.inl (fun ⟨u, a1, a2, a3⟩ => Or.inr ⟨u, a2, a3⟩), fun h9 => h9.elim Or.inl (fun ⟨u, a2, a3, a4, a5⟩ => Or.inr ⟨u, Nat.le_of_not_lt (fun b9 => by rcases hlr with ⟨e9, f9⟩ | ⟨q, a1, a2, a3, a4, a5⟩; exact f9 u b9 a3 a4; omega), a2, a3, a4, a5⟩)⟩⟩, rfl⟩)
        · obtain ⟨qq, hqx, hq1, hq2, hq3, hq4⟩ := hq c_20
          clear hq
          have hq5 := isP_lt hs hq2
          have hbq := hbe qq hq2
          have hxq := lastR_b (hah qq (by omega) hq2)
          have hd0 := aZ_b (a := M 13 p - M 13 qq) (n := 511) (by omega) (by omega)
          refine ww_aload_n C dX0_markBetween_23 0 rfl ?_
          refine gt_X0_38 C dX0_markBetween_24 ?_
          refine ww_aload_n C dX0_markBetween_27 0 rfl ?_
          refine gt_X0_9 C dX0_markBetween_28 ?_
          refine ww_iload_n C dX0_markBetween_31 1 rfl ?_
          refine al_13 C p (z := M 13 p) rfl (by omega) rfl dX0_markBetween_32 ?_
          refine ww_aload_n C dX0_markBetween_33 0 rfl ?_
          refine gt_X0_9 C dX0_markBetween_34 ?_
          refine ww_iload_n C dX0_markBetween_37 2 rfl ?_
          refine al_13 C qq (z := M 13 qq) (hqx) (by omega) rfl dX0_markBetween_38 ?_
          refine ww_isub C dX0_markBetween_39 ?_
          refine ww_abs C ml_X0_101 (by omega) (by decide) (Nat.le_of_ble_eq_true rfl) dX0_markBetween_40 ?_
          refine ww_iconst C dX0_markBetween_43 ?_
          refine as_18 C ((aZ (M 13 p - M 13 qq)).toNat) (by omega) (by omega) dX0_markBetween_44 ?_
          refine ww_mem (M1 := ups M 18 (up1 bt ((aZ (M 13 p - M 13 qq)).toNat) 1)) (ups_ups) ?_
          refine ww_aload_n C dX0_markBetween_45 0 rfl ?_
          refine gt_X0_35 C dX0_markBetween_46 ?_
          refine ww_iload_n C dX0_markBetween_49 2 rfl ?_
          refine al_17 C qq (z := M 17 qq) (hqx) (by omega) rfl dX0_markBetween_50 ?_
          refine ww_iconst C dX0_markBetween_51 ?_
          refine ww_isub C dX0_markBetween_52 ?_
          refine ww_istore_n C dX0_markBetween_53 (lv' := [(2, .int (iZ ((M 17 qq) - 1))), (0, .ref (wa w 12)), (1, .int (iZ ((p : Nat) : Int))), (3, .int (iZ ((n : Nat) : Int)))]) (by rw [hkL]; decide) rfl ?_
          refine ww_iinc2 C dX0_markBetween_54 3 rfl (b := ((n + 1 : Nat) : Int)) (by omega) (lv' := [(3, .int (iZ ((n + 1 : Nat) : Int))), (2, .int (iZ ((M 17 qq) - 1))), (0, .ref (wa w 12)), (1, .int (iZ ((p : Nat) : Int)))]) (by rw [hkL]; decide) rfl ?_
          refine ww_goto C 11 dX0_markBetween_57 (by decide) ?_
          refine ww_sub [2, 3, 1, 0] rfl ?_
          exact ih_11 (n + 1) qq ((M 17 qq) - 1) (up1 bt (aZ (M 13 p - M 13 qq)).toNat 1) (by omega) (by rw [show M 17 qq - 1 + 1 = M 17 qq by omega, ← hq3]; exact hah qq (by omega) hq2) (markStep hbt hq1 (by omega) hq2 hq3 hq4 hd0) (by omega)
  refine ww_sub [2, 3, 1, 0] rfl ?_
  refine ww_mem (M1 := ups M 18 (M 18)) (ups_id.symm) ?_
  exact L_11 _ 0 p (M 17 p - 1) (M 18) (by omega) (by rw [show M 17 p - 1 + 1 = M 17 p by omega]; exact hah p (Nat.le_refl _) hpp) (fun d => ⟨hb0 d, ⟨fun h9 => Or.inl h9, fun h9 => h9.elim id (fun ⟨u, a1, a2, _⟩ => by omega)⟩⟩) (Nat.lt_succ_self _)
set_option maxRecDepth 100000 in
set_option maxHeartbeats 4000000 in
theorem ct_X0_use (w : WLD) (M : Mem) (np : Nat) (hb : 1 ≤ M 12 4 ∧ M 12 4 ≤ 512) (hc : 1 ≤ M 12 5 ∧ M 12 5 ≤ 512) (hnp : M 1 2 = (np : Int)) (hn5 : np ≤ 512) : CtI w yX0_use cX0_use 3 (some .int) rm_X0_use [.ref (wa w 12), .ref (wa w 1)] M (fun z M1 => z = 1000 * (np : Int) / (M 12 4 * M 12 5) ∧ M1 = M) := by
  refine CtI.of (by decide) (Nat.le_of_ble_eq_true rfl) rfl rfl ?_
  intro k hkL C RT
  have hm : 1 ≤ M 12 4 * M 12 5 ∧ M 12 4 * M 12 5 ≤ 262144 := ⟨by have := Int.mul_le_mul hb.1 hc.1 (by omega) (by omega); omega, by have := Int.mul_le_mul hb.2 hc.2 (by omega) (by omega); omega⟩
  show WW w k 0 [(0, .ref (wa w 12)), (1, .ref (wa w 1))] [] M
  refine ww_aload_n C dX0_use_0 0 rfl ?_
  refine gt_X0_45 C dX0_use_1 ?_
  refine ww_aload_n C dX0_use_4 0 rfl ?_
  refine gt_X0_48 C dX0_use_5 ?_
  refine ww_imul C dX0_use_8 ?_
  refine ww_istore_n C dX0_use_9 (lv' := [(2, .int (iZ ((M 12 4) * (M 12 5)))), (0, .ref (wa w 12)), (1, .ref (wa w 1))]) (by rw [hkL]; decide) rfl ?_
  refine ww_iload_n C dX0_use_10 0 rfl ?_
  refine ww_if_ne C 18 dX0_use_11 (by decide) (by omega) (fun c_11 => ?_) (fun c_11 => ?_)
  · refine ww_sipush C dX0_use_18 (by decide) ?_
    refine ww_aload_n C dX0_use_21 2 rfl ?_
    refine gt_X0_51 C dX0_use_22 ?_
    refine ww_top (b := ((np : Nat) : Int)) (hnp) ?_
    refine ww_imul C dX0_use_25 ?_
    refine ww_iload_n C dX0_use_26 0 rfl ?_
    refine ww_idivN C dX0_use_27 (by omega) (by omega) ?_
    exact RT _ _ _ _ dX0_use_28 (⟨by first | rfl | (exfalso; omega), rfl⟩)
  · refine ww_iconst C dX0_use_14 ?_
    refine ww_goto C 28 dX0_use_15 (by decide) ?_
    exact RT _ _ _ _ dX0_use_28 (⟨by first | rfl | (exfalso; omega), rfl⟩)
set_option maxRecDepth 100000 in
set_option maxHeartbeats 4000000 in
theorem ct_X0_isFree (w : WLD) (M : Mem) (n : Nat) (hn : 1 ≤ n ∧ n < 512) (hb : 0 ≤ M 12 4 ∧ M 12 4 ≤ 512) (hb0 : ∀ d : Nat, M 18 d = 0 ∨ M 18 d = 1) : CtI w yX0_isFree cX0_isFree 3 (some .boolean) rm_X0_isFree [.ref (wa w 12), .int (iZ ((n : Nat) : Int))] M (fun z M1 => (z = 0 ∨ z = 1) ∧ (z = 1 ↔ ∀ u : Nat, 1 ≤ u → ((u * n : Nat) : Int) < M 12 4 → M 18 (u * n) = 0) ∧ M1 = M) := by
  refine CtI.ofZ (by decide) (Nat.le_of_ble_eq_true rfl) rfl rfl (fun z M9 h9 => h9.1) ?_
  intro k hkL C RT
  show WW w k 0 [(0, .ref (wa w 12)), (1, .int (iZ ((n : Nat) : Int)))] [] M
  refine ww_iconst C dX0_isFree_0 ?_
  refine ww_istore_n C dX0_isFree_1 (lv' := [(2, .int (iZ 1)), (0, .ref (wa w 12)), (1, .int (iZ ((n : Nat) : Int)))]) (by rw [hkL]; decide) rfl ?_
  have L_2 : ∀ (fuel : Nat) (t : Nat) (ht : 1 ≤ t ∧ t ≤ 512) (hno : ∀ u : Nat, 1 ≤ u → u < t → M 18 (u * n) = 0), 512 - t < fuel → WW w k 2 [(0, .ref (wa w 12)), (1, .int (iZ ((n : Nat) : Int))), (2, .int (iZ ((t : Nat) : Int)))] [] M := by
    intro fuel
    induction fuel with
    | zero => intro t ht hno hf_2; exact absurd hf_2 (Nat.not_lt_zero _)
    | succ fuel ih_2 =>
      intro t ht hno hf_2
      have hm1 := mulNN (m := t) (n := n) (by omega) (by omega)
      have hm2 : t ≤ t * n := Nat.le_mul_of_pos_right t (by omega)
      have hb9 := hb0 (t * n)
      have hmono : ∀ u : Nat, t ≤ u → t * n ≤ u * n := fun u h9 => Nat.mul_le_mul_right n h9
      refine ww_iload_n C dX0_isFree_2 2 rfl ?_
      refine ww_aload_n C dX0_isFree_3 0 rfl ?_
      refine gt_X0_45 C dX0_isFree_4 ?_
      refine ww_icmp_ge C 39 dX0_isFree_7 (by decide) (by omega) (by omega) (fun c_7 => ?_) (fun c_7 => ?_)
      · refine ww_iconst C dX0_isFree_39 ?_
        exact RT _ _ _ _ dX0_isFree_40 (⟨by omega, ⟨fun _ u h8 h9 => by rcases Nat.lt_or_ge u t with b9 | b9; exact hno u h8 b9; (have := hmono u b9; omega), fun _ => rfl⟩, rfl⟩)
      · refine ww_iload_n C dX0_isFree_10 2 rfl ?_
        refine ww_iload_n C dX0_isFree_11 1 rfl ?_
        refine ww_imul C dX0_isFree_12 ?_
        refine ww_top (b := ((t * n : Nat) : Int)) (by rw [Int.natCast_mul]) ?_
        refine ww_aload_n C dX0_isFree_13 0 rfl ?_
        refine gt_X0_45 C dX0_isFree_14 ?_
        refine ww_icmp_ge C 39 dX0_isFree_17 (by decide) (by omega) (by omega) (fun c_17 => ?_) (fun c_17 => ?_)
        · refine ww_iconst C dX0_isFree_39 ?_
          exact RT _ _ _ _ dX0_isFree_40 (⟨by omega, ⟨fun _ u h8 h9 => by rcases Nat.lt_or_ge u t with b9 | b9; exact hno u h8 b9; (have := hmono u b9; omega), fun _ => rfl⟩, rfl⟩)
        · refine ww_aload_n C dX0_isFree_20 0 rfl ?_
          refine gt_X0_38 C dX0_isFree_21 ?_
          refine ww_iload_n C dX0_isFree_24 2 rfl ?_
          refine ww_iload_n C dX0_isFree_25 1 rfl ?_
          refine ww_imul C dX0_isFree_26 ?_
          refine ww_top (b := ((t * n : Nat) : Int)) (by rw [Int.natCast_mul]) ?_
          refine al_18 C (t * n) (z := M 18 (t * n)) rfl (by omega) rfl dX0_isFree_27 ?_
          refine ww_if_eq C 33 dX0_isFree_28 (by decide) (by omega) (fun c_28 => ?_) (fun c_28 => ?_)
          · refine ww_iinc2 C dX0_isFree_33 2 rfl (b := ((t + 1 : Nat) : Int)) (by omega) (lv' := [(2, .int (iZ ((t + 1 : Nat) : Int))), (0, .ref (wa w 12)), (1, .int (iZ ((n : Nat) : Int)))]) (by rw [hkL]; decide) rfl ?_
            refine ww_goto C 2 dX0_isFree_36 (by decide) ?_
            refine ww_sub [1, 2, 0] rfl ?_
            exact ih_2 (t + 1) (by omega) (fun u h8 h9 => by rcases Nat.lt_succ_iff_lt_or_eq.mp h9 with h9 | rfl; exact hno u h8 h9; exact c_28) (by omega)
          · refine ww_iconst C dX0_isFree_31 ?_
            exact RT _ _ _ _ dX0_isFree_32 (⟨by omega, ⟨fun h9 => by omega, fun h9 => absurd (h9 t ht.1 (by omega)) c_28⟩, rfl⟩)
  refine ww_sub [1, 2, 0] rfl ?_
  exact L_2 _ 1 (by omega) (fun u h8 h9 => by omega) (Nat.lt_succ_self _)
