set_option maxRecDepth 100000 in
set_option maxHeartbeats 4000000 in
theorem ct_X2_sortByBeat (w : WLD) (M : Mem) (B : Nat → Int) (np bt : Nat) (hs : SzOk (M 2)) (hnp : M 1 2 = (np : Int)) (hcd : CdOk (M 2) (M 3) np) (hbt : M 25 3 = (bt : Int)) (hb5 : 1 ≤ bt ∧ bt ≤ 512) (hB : ∀ p : Nat, isP (M 2) p → M 13 p = B p ∧ 0 ≤ B p ∧ B p < (bt : Int)) : CtV w yX2_sortByBeat cX2_sortByBeat 6 rm_X2_sortByBeat [.ref (wa w 25), .ref (wa w 1), .ref (wa w 12)] M (fun M1 => ∃ stt od : Nat → Int, SoOk (M 2) B bt stt od ∧ M1 = ups (ups M 29 stt) 28 od) := by
  refine CtV.of (by decide) (Nat.le_of_ble_eq_true rfl) rfl rfl ?_
  intro k hkL C RT
  have hnp9 := hcd.2.2.2.2
  show WW w k 0 [(0, .ref (wa w 25)), (1, .ref (wa w 1)), (2, .ref (wa w 12))] [] M
  refine ww_aload_n C dX2_sortByBeat_0 0 rfl ?_
  refine gt_X2_29 C dX2_sortByBeat_1 ?_
  refine ww_iconst C dX2_sortByBeat_4 ?_
  refine ww_callSV C (As := [.ref (wa w 29), .int (iZ 0)]) (ct_J7_fill_53178 w M 29 513 0 (by decide) (fun _ => rfl) (by decide)) mf_J7_fill_53178 ml_X2_48 (by decide) rfl rfl (Nat.le_of_ble_eq_true rfl) dX2_sortByBeat_5 (fun M_5 hp_5 => ?_)
  rw [hp_5]
  refine ww_mem (M1 := ups M 29 (fil 513 0 (M 29))) rfl ?_
  refine ww_iconst C dX2_sortByBeat_8 ?_
  refine ww_istore_n C dX2_sortByBeat_9 (lv' := [(3, .int (iZ 0)), (0, .ref (wa w 25)), (1, .ref (wa w 1)), (2, .ref (wa w 12))]) (by rw [hkL]; decide) rfl ?_
  have L_10 : ∀ (fuel : Nat) (t : Nat) (stt : Nat → Int) (ht : t ≤ np) (hi : ∀ x : Nat, x ≤ 512 → stt x = cM (M 3) (fun p => B p = (x : Int)) t), np - t < fuel → WW w k 10 [(0, .ref (wa w 25)), (1, .ref (wa w 1)), (2, .ref (wa w 12)), (3, .int (iZ ((t : Nat) : Int)))] [] (ups M 29 stt) := by
    intro fuel
    induction fuel with
    | zero => intro t stt ht hi hf_10; exact absurd hf_10 (Nat.not_lt_zero _)
    | succ fuel ih_10 =>
      intro t stt ht hi hf_10
      have hc1 := hcd.1 t
      have hbi : t < np → B (M 3 t).toNat = (((B (M 3 t).toNat).toNat : Nat) : Int) := fun h9 => by have := hB _ (hc1 h9).2.2; omega
      refine ww_iload_n C dX2_sortByBeat_10 3 rfl ?_
      refine ww_aload_n C dX2_sortByBeat_11 1 rfl ?_
      refine gt_X2_53 C dX2_sortByBeat_12 ?_
      refine ww_top (b := ((np : Nat) : Int)) (hnp) ?_
      refine ww_icmp_ge C 44 dX2_sortByBeat_15 (by decide) (by omega) (by omega) (fun c_15 => ?_) (fun c_15 => ?_)
      · have hif : ∀ x : Nat, x ≤ 512 → stt x = cM (M 3) (fun p => B p = (x : Int)) np := by rw [show t = np by omega] at hi; exact hi
        refine ww_iconst C dX2_sortByBeat_44 ?_
        refine ww_istore_n C dX2_sortByBeat_45 (lv' := [(3, .int (iZ 1)), (0, .ref (wa w 25)), (1, .ref (wa w 1)), (2, .ref (wa w 12))]) (by rw [hkL]; decide) rfl ?_
        have L_46 : ∀ (fuel : Nat) (b : Nat) (stt : Nat → Int) (hb : 1 ≤ b ∧ b ≤ bt + 1) (h1 : ∀ x : Nat, x < b → stt x = cM (M 3) (fun p => B p < (x : Int)) np + cM (M 3) (fun p => B p = (x : Int)) np) (h2 : ∀ x : Nat, b ≤ x → x ≤ 512 → stt x = cM (M 3) (fun p => B p = (x : Int)) np), bt + 1 - b < fuel → WW w k 46 [(0, .ref (wa w 25)), (1, .ref (wa w 1)), (2, .ref (wa w 12)), (3, .int (iZ ((b : Nat) : Int)))] [] (ups M 29 stt) := by
          intro fuel
          induction fuel with
          | zero => intro b stt hb h1 h2 hf_46; exact absurd hf_46 (Nat.not_lt_zero _)
          | succ fuel ih_46 =>
            intro b stt hb h1 h2 hf_46
            refine ww_iload_n C dX2_sortByBeat_46 3 rfl ?_
            refine ww_aload_n C dX2_sortByBeat_47 0 rfl ?_
            refine gt_X2_22 C dX2_sortByBeat_48 ?_
            refine ww_top (b := ((bt : Nat) : Int)) (hbt) ?_
            refine ww_icmp_gt C 77 dX2_sortByBeat_51 (by decide) (by omega) (by omega) (fun c_51 => ?_) (fun c_51 => ?_)
            · refine ww_aload_n C dX2_sortByBeat_77 1 rfl ?_
              refine gt_X2_53 C dX2_sortByBeat_78 ?_
              refine ww_top (b := ((np : Nat) : Int)) (hnp) ?_
              refine ww_iconst C dX2_sortByBeat_81 ?_
              refine ww_isub C dX2_sortByBeat_82 ?_
              refine ww_istore_n C dX2_sortByBeat_83 (lv' := [(3, .int (iZ (((np : Nat) : Int) - 1))), (0, .ref (wa w 25)), (1, .ref (wa w 1)), (2, .ref (wa w 12))]) (by rw [hkL]; decide) rfl ?_
              have L_84 : ∀ (fuel : Nat) (t : Nat) (stt od : Nat → Int) (ht : t ≤ np) (h3 : ∀ x : Nat, x ≤ bt → stt x = cM (M 3) (fun p => B p < (x : Int)) np + cM (M 3) (fun p => B p = (x : Int)) t) (h4 : ∀ j : Nat, t ≤ j → j < np → od (pmZ (M 3) B np j).toNat = (((M 3 j).toNat : Nat) : Int)), t < fuel → WW w k 84 [(0, .ref (wa w 25)), (1, .ref (wa w 1)), (2, .ref (wa w 12)), (3, .int (iZ (((t : Nat) : Int) - 1)))] [] (ups (ups M 29 stt) 28 od) := by
                intro fuel
                induction fuel with
                | zero => intro t stt od ht h3 h4 hf_84; exact absurd hf_84 (Nat.not_lt_zero _)
                | succ fuel ih_84 =>
                  intro t stt od ht h3 h4 hf_84
                  refine ww_iload_n C dX2_sortByBeat_84 3 rfl ?_
                  refine ww_if_lt C 136 dX2_sortByBeat_85 (by decide) (by omega) (fun c_85 => ?_) (fun c_85 => ?_)
                  · exact RT _ _ _ dX2_sortByBeat_136 (⟨stt, od, so_end hcd hs (by rw [show t = 0 by omega] at h3; exact h3) (fun j h9 => h4 j (by omega) h9), rfl⟩)
                  · refine ww_aload_n C dX2_sortByBeat_88 1 rfl ?_
                    refine gt_X2_59 C dX2_sortByBeat_89 ?_
                    refine ww_iload_n C dX2_sortByBeat_92 3 rfl ?_
                    refine al_3 C (t - 1) (z := (((M 3 (t - 1)).toNat : Nat) : Int)) (by omega) (by omega) ((hcd.1 (t - 1) (by omega)).1) dX2_sortByBeat_93 ?_
                    have hc1 := hcd.1 (t - 1) (by omega)
                    have hbl := (hB _ hc1.2.2).2
                    have hbi : B (M 3 (t - 1)).toNat = (((B (M 3 (t - 1)).toNat).toNat : Nat) : Int) := by omega
                    have hq9 := so_c3 (by omega) ht hbi (by omega) h3 h4
                    have hq8 := pm_lt (co := M 3) (B := B) (show t - 1 < np by omega)
                    refine ww_istore C dX2_sortByBeat_94 (lv' := [(4, .int (iZ (((M 3 (t - 1)).toNat : Nat) : Int))), (0, .ref (wa w 25)), (1, .ref (wa w 1)), (2, .ref (wa w 12)), (3, .int (iZ (((t : Nat) : Int) - 1)))]) (by rw [hkL]; decide) rfl ?_
                    refine ww_aload_n C dX2_sortByBeat_96 3 rfl ?_
                    refine gt_X2_56 C dX2_sortByBeat_97 ?_
                    refine ww_iload C dX2_sortByBeat_100 0 rfl ?_
                    refine al_13 C ((M 3 (t - 1)).toNat) (z := (((B (M 3 (t - 1)).toNat).toNat : Nat) : Int)) rfl (hc1.2.1) (show M 13 (M 3 (t - 1)).toNat = _ from by have e9 := hB _ hc1.2.2; omega) dX2_sortByBeat_102 ?_
                    refine ww_istore C dX2_sortByBeat_103 (lv' := [(5, .int (iZ (((B (M 3 (t - 1)).toNat).toNat : Nat) : Int))), (4, .int (iZ (((M 3 (t - 1)).toNat : Nat) : Int))), (0, .ref (wa w 25)), (1, .ref (wa w 1)), (2, .ref (wa w 12)), (3, .int (iZ (((t : Nat) : Int) - 1)))]) (by rw [hkL]; decide) rfl ?_
                    refine ww_aload_n C dX2_sortByBeat_105 2 rfl ?_
                    refine gt_X2_29 C dX2_sortByBeat_106 ?_
                    refine ww_iload C dX2_sortByBeat_109 0 rfl ?_
                    refine ww_dup2 C dX2_sortByBeat_111 rfl rfl ?_
                    refine al_29 C ((B (M 3 (t - 1)).toNat).toNat) (z := stt ((B (M 3 (t - 1)).toNat).toNat)) rfl (by omega) rfl dX2_sortByBeat_112 ?_
                    refine ww_iconst C dX2_sortByBeat_113 ?_
                    refine ww_isub C dX2_sortByBeat_114 ?_
                    refine as_29 C ((B (M 3 (t - 1)).toNat).toNat) rfl (by omega) dX2_sortByBeat_115 ?_
                    refine ww_mem (M1 := ups (ups M 29 (up1 stt ((B (M 3 (t - 1)).toNat).toNat) ((stt ((B (M 3 (t - 1)).toNat).toNat)) - 1))) 28 od) (((ups_comm (by decide)).trans (congrArg (fun X9 => ups X9 28 od) ups_ups))) ?_
                    refine ww_aload_n C dX2_sortByBeat_116 2 rfl ?_
                    refine gt_X2_26 C dX2_sortByBeat_117 ?_
                    refine ww_aload_n C dX2_sortByBeat_120 2 rfl ?_
                    refine gt_X2_29 C dX2_sortByBeat_121 ?_
                    refine ww_iload C dX2_sortByBeat_124 0 rfl ?_
                    refine al_29 C ((B (M 3 (t - 1)).toNat).toNat) (z := stt (B (M 3 (t - 1)).toNat).toNat - 1) rfl (by omega) (up1_s) dX2_sortByBeat_126 ?_
                    refine ww_iload C dX2_sortByBeat_127 1 rfl ?_
                    refine as_28 C ((stt (B (M 3 (t - 1)).toNat).toNat - 1).toNat) (by omega) (by omega) dX2_sortByBeat_129 ?_
                    refine ww_mem (M1 := ups (ups M 29 (up1 stt ((B (M 3 (t - 1)).toNat).toNat) ((stt ((B (M 3 (t - 1)).toNat).toNat)) - 1))) 28 (up1 od ((stt (B (M 3 (t - 1)).toNat).toNat - 1).toNat) (((M 3 (t - 1)).toNat : Nat) : Int))) (ups_ups) ?_
                    refine ww_iinc2 C dX2_sortByBeat_130 5 rfl (b := ((t - 1 : Nat) : Int) - 1) (by omega) (lv' := [(3, .int (iZ (((t - 1 : Nat) : Int) - 1))), (5, .int (iZ (((B (M 3 (t - 1)).toNat).toNat : Nat) : Int))), (4, .int (iZ (((M 3 (t - 1)).toNat : Nat) : Int))), (0, .ref (wa w 25)), (1, .ref (wa w 1)), (2, .ref (wa w 12))]) (by rw [hkL]; decide) rfl ?_
                    refine ww_goto C 84 dX2_sortByBeat_133 (by decide) ?_
                    refine ww_sub [3, 4, 5, 0] rfl ?_
                    exact ih_84 (t - 1) (up1 stt ((B (M 3 (t - 1)).toNat).toNat) ((stt ((B (M 3 (t - 1)).toNat).toNat)) - 1)) (up1 od ((stt (B (M 3 (t - 1)).toNat).toNat - 1).toNat) (((M 3 (t - 1)).toNat : Nat) : Int)) (by omega) (hq9.2.1) (hq9.2.2) (by omega)
              refine ww_sub [1, 2, 3, 0] rfl ?_
              refine ww_mem (M1 := ups (ups M 29 stt) 28 (M 28)) ((ups_id (M := ups M 29 stt) (h := 28)).symm) ?_
              exact L_84 _ np stt (M 28) (by omega) (fun x h9 => h1 x (by omega)) (fun j h8 h9 => by omega) (Nat.lt_succ_self _)
            · refine ww_aload_n C dX2_sortByBeat_54 0 rfl ?_
              refine gt_X2_29 C dX2_sortByBeat_55 ?_
              refine ww_iload_n C dX2_sortByBeat_58 3 rfl ?_
              refine ww_dup2 C dX2_sortByBeat_59 rfl rfl ?_
              refine al_29 C b (z := stt b) rfl (by omega) rfl dX2_sortByBeat_60 ?_
              refine ww_aload_n C dX2_sortByBeat_61 0 rfl ?_
              refine gt_X2_29 C dX2_sortByBeat_62 ?_
              refine ww_iload_n C dX2_sortByBeat_65 3 rfl ?_
              refine ww_iconst C dX2_sortByBeat_66 ?_
              refine ww_isub C dX2_sortByBeat_67 ?_
              refine al_29 C (b - 1) (z := stt (b - 1)) (by omega) (by omega) rfl dX2_sortByBeat_68 ?_
              refine ww_iadd C dX2_sortByBeat_69 ?_
              refine as_29 C b rfl (by omega) dX2_sortByBeat_70 ?_
              refine ww_mem (M1 := ups M 29 (up1 stt b ((stt b) + (stt (b - 1))))) (ups_ups) ?_
              refine ww_iinc2 C dX2_sortByBeat_71 3 rfl (b := ((b + 1 : Nat) : Int)) (by omega) (lv' := [(3, .int (iZ ((b + 1 : Nat) : Int))), (0, .ref (wa w 25)), (1, .ref (wa w 1)), (2, .ref (wa w 12))]) (by rw [hkL]; decide) rfl ?_
              refine ww_goto C 46 dX2_sortByBeat_74 (by decide) ?_
              refine ww_sub [1, 2, 3, 0] rfl ?_
              exact ih_46 (b + 1) (up1 stt b ((stt b) + (stt (b - 1)))) (by omega) ((so_c2 hb.1 (by omega) h1 h2).1) ((so_c2 hb.1 (by omega) h1 h2).2) (by omega)
        refine ww_sub [1, 2, 3, 0] rfl ?_
        exact L_46 _ 1 stt (by omega) (fun x h9 => by rw [hif x (by omega), show x = 0 by omega]; have e9 : cM (M 3) (fun p => B p < ((0 : Nat) : Int)) np = 0 := cnt_skip (a := 0) (Nat.zero_le _) (fun j _ h8 h7 => by have e8 := (hB _ (hcd.1 j h8).2.2).2.1; omega); omega) (fun x _ h9 => hif x h9) (Nat.lt_succ_self _)
      · refine ww_aload_n C dX2_sortByBeat_18 0 rfl ?_
        refine gt_X2_29 C dX2_sortByBeat_19 ?_
        refine ww_aload_n C dX2_sortByBeat_22 2 rfl ?_
        refine gt_X2_56 C dX2_sortByBeat_23 ?_
        refine ww_aload_n C dX2_sortByBeat_26 1 rfl ?_
        refine gt_X2_59 C dX2_sortByBeat_27 ?_
        refine ww_iload_n C dX2_sortByBeat_30 3 rfl ?_
        refine al_3 C t (z := (((M 3 t).toNat : Nat) : Int)) rfl (by omega) ((hcd.1 t (by omega)).1) dX2_sortByBeat_31 ?_
        refine al_13 C ((M 3 t).toNat) (z := (((B (M 3 t).toNat).toNat : Nat) : Int)) rfl ((hc1 (by omega)).2.1) (show M 13 (M 3 t).toNat = _ from by have e9 := hB _ (hc1 (by omega)).2.2; omega) dX2_sortByBeat_32 ?_
        have hbi := hbi (by omega)
        have hbl := (hB _ (hc1 (by omega)).2.2).2
        refine ww_dup2 C dX2_sortByBeat_33 rfl rfl ?_
        refine al_29 C ((B (M 3 t).toNat).toNat) (z := stt ((B (M 3 t).toNat).toNat)) rfl (by omega) rfl dX2_sortByBeat_34 ?_
        refine ww_iconst C dX2_sortByBeat_35 ?_
        refine ww_iadd C dX2_sortByBeat_36 ?_
        refine as_29 C ((B (M 3 t).toNat).toNat) rfl (by omega) dX2_sortByBeat_37 ?_
        refine ww_mem (M1 := ups M 29 (up1 stt ((B (M 3 t).toNat).toNat) ((stt ((B (M 3 t).toNat).toNat)) + 1))) (ups_ups) ?_
        refine ww_iinc2 C dX2_sortByBeat_38 3 rfl (b := ((t + 1 : Nat) : Int)) (by omega) (lv' := [(3, .int (iZ ((t + 1 : Nat) : Int))), (0, .ref (wa w 25)), (1, .ref (wa w 1)), (2, .ref (wa w 12))]) (by rw [hkL]; decide) rfl ?_
        refine ww_goto C 10 dX2_sortByBeat_41 (by decide) ?_
        refine ww_sub [1, 2, 3, 0] rfl ?_
        exact ih_10 (t + 1) (up1 stt ((B (M 3 t).toNat).toNat) ((stt ((B (M 3 t).toNat).toNat)) + 1)) (by omega) (so_c1 hbi hi) (by omega)
  refine ww_sub [1, 2, 3, 0] rfl ?_
  exact L_10 _ 0 (fil 513 0 (M 29)) (by omega) (fun x h9 => by rw [fil_lt (by omega)]; rfl) (Nat.lt_succ_self _)
set_option maxRecDepth 100000 in
set_option maxHeartbeats 4000000 in
theorem ct_X2_countHeld (w : WLD) (M : Mem) (B : Nat → Int) (nv np bt : Nat) (hs : SzOk (M 2)) (hst : StOk (M 4)) (hnv : M 1 3 = (nv : Int)) (hn4 : nv ≤ 4) (hnp : M 1 2 = (np : Int)) (hcd : CdOk (M 2) (M 3) np) (hbt : M 25 3 = (bt : Int)) (hb5 : 1 ≤ bt ∧ bt ≤ 512) (hB : ∀ p : Nat, isP (M 2) p → M 13 p = B p ∧ 0 ≤ B p ∧ B p < (bt : Int)) (hn : ∀ v p : Nat, v < nv → nxP (M 2) (M 4) v p → isP (M 2) (stepZ (M 2) (M 4) v p 1).toNat ∧ B p < B (stepZ (M 2) (M 4) v p 1).toNat) : CtV w yX2_countHeld cX2_countHeld 6 rm_X2_countHeld [.ref (wa w 25), .ref (wa w 1), .ref (wa w 12)] M (fun M1 => ∃ he : Nat → Int, (∀ b : Nat, b < bt → he b = hsu (M 2) (M 4) B (b : Int) nv) ∧ M1 = ups M 27 he) := by
  refine CtV.of (by decide) (Nat.le_of_ble_eq_true rfl) rfl rfl ?_
  intro k hkL C RT
  have hnp9 := hcd.2.2.2.2
  show WW w k 0 [(0, .ref (wa w 25)), (1, .ref (wa w 1)), (2, .ref (wa w 12))] [] M
  refine ww_aload_n C dX2_countHeld_0 0 rfl ?_
  refine gt_X2_19 C dX2_countHeld_1 ?_
  refine ww_iconst C dX2_countHeld_4 ?_
  refine ww_callSV C (As := [.ref (wa w 27), .int (iZ 0)]) (ct_J7_fill_53178 w M 27 513 0 (by decide) (fun _ => rfl) (by decide)) mf_J7_fill_53178 ml_X2_48 (by decide) rfl rfl (Nat.le_of_ble_eq_true rfl) dX2_countHeld_5 (fun M_5 hp_5 => ?_)
  rw [hp_5]
  refine ww_mem (M1 := ups M 27 (fil 513 0 (M 27))) rfl ?_
  refine ww_iconst C dX2_countHeld_8 ?_
  refine ww_istore_n C dX2_countHeld_9 (lv' := [(3, .int (iZ 0)), (0, .ref (wa w 25)), (1, .ref (wa w 1)), (2, .ref (wa w 12))]) (by rw [hkL]; decide) rfl ?_
  have L_10 : ∀ (fuel : Nat) (v : Nat) (he : Nat → Int) (hv : v ≤ nv) (hi : ∀ x : Nat, x ≤ 512 → he x = dsu (M 2) (M 4) B (x : Int) v), nv - v < fuel → WW w k 10 [(0, .ref (wa w 25)), (1, .ref (wa w 1)), (2, .ref (wa w 12)), (3, .int (iZ ((v : Nat) : Int)))] [] (ups M 27 he) := by
    intro fuel
    induction fuel with
    | zero => intro v he hv hi hf_10; exact absurd hf_10 (Nat.not_lt_zero _)
    | succ fuel ih_10 =>
      intro v he hv hi hf_10
      refine ww_iload_n C dX2_countHeld_10 3 rfl ?_
      refine ww_aload_n C dX2_countHeld_11 1 rfl ?_
      refine gt_X2_62 C dX2_countHeld_12 ?_
      refine ww_top (b := ((nv : Nat) : Int)) (hnv) ?_
      refine ww_icmp_ge C 100 dX2_countHeld_15 (by decide) (by omega) (by omega) (fun c_15 => ?_) (fun c_15 => ?_)
      · have hif : ∀ x : Nat, x ≤ 512 → he x = dsu (M 2) (M 4) B (x : Int) nv := by rw [show v = nv by omega] at hi; exact hi
        refine ww_iconst C dX2_countHeld_100 ?_
        refine ww_istore_n C dX2_countHeld_101 (lv' := [(3, .int (iZ 1)), (0, .ref (wa w 25)), (1, .ref (wa w 1)), (2, .ref (wa w 12))]) (by rw [hkL]; decide) rfl ?_
        have L_102 : ∀ (fuel : Nat) (b : Nat) (he : Nat → Int) (hb : 1 ≤ b ∧ b ≤ 512) (h1 : ∀ x : Nat, x < b → he x = sumT (fun y => dsu (M 2) (M 4) B (y : Int) nv) x) (h2 : ∀ x : Nat, b ≤ x → x ≤ 512 → he x = dsu (M 2) (M 4) B (x : Int) nv), 513 - b < fuel → WW w k 102 [(0, .ref (wa w 25)), (3, .int (iZ ((b : Nat) : Int)))] [] (ups M 27 he) := by
          intro fuel
          induction fuel with
          | zero => intro b he hb h1 h2 hf_102; exact absurd hf_102 (Nat.not_lt_zero _)
          | succ fuel ih_102 =>
            intro b he hb h1 h2 hf_102
            refine ww_iload_n C dX2_countHeld_102 1 rfl ?_
            refine ww_aload_n C dX2_countHeld_103 0 rfl ?_
            refine gt_X2_22 C dX2_countHeld_104 ?_
            refine ww_top (b := ((bt : Nat) : Int)) (hbt) ?_
            refine ww_icmp_ge C 133 dX2_countHeld_107 (by decide) (by omega) (by omega) (fun c_107 => ?_) (fun c_107 => ?_)
            · exact RT _ _ _ dX2_countHeld_133 (⟨he, fun x h9 => by rw [h1 x (by omega)]; exact held_eq (fun p h8 => (hB p h8).2.1) hn x nv (Nat.le_refl _), rfl⟩)
            · refine ww_aload_n C dX2_countHeld_110 0 rfl ?_
              refine gt_X2_19 C dX2_countHeld_111 ?_
              refine ww_iload_n C dX2_countHeld_114 1 rfl ?_
              refine ww_dup2 C dX2_countHeld_115 rfl rfl ?_
              refine al_27 C b (z := he b) rfl (by omega) rfl dX2_countHeld_116 ?_
              refine ww_aload_n C dX2_countHeld_117 0 rfl ?_
              refine gt_X2_19 C dX2_countHeld_118 ?_
              refine ww_iload_n C dX2_countHeld_121 1 rfl ?_
              refine ww_iconst C dX2_countHeld_122 ?_
              refine ww_isub C dX2_countHeld_123 ?_
              refine al_27 C (b - 1) (z := he (b - 1)) (by omega) (by omega) rfl dX2_countHeld_124 ?_
              refine ww_iadd C dX2_countHeld_125 ?_
              refine as_27 C b rfl (by omega) dX2_countHeld_126 ?_
              refine ww_mem (M1 := ups M 27 (up1 he b ((he b) + (he (b - 1))))) (ups_ups) ?_
              refine ww_iinc2 C dX2_countHeld_127 1 rfl (b := ((b + 1 : Nat) : Int)) (by omega) (lv' := [(3, .int (iZ ((b + 1 : Nat) : Int))), (0, .ref (wa w 25))]) (by rw [hkL]; decide) rfl ?_
              refine ww_goto C 102 dX2_countHeld_130 (by decide) ?_
              refine ww_sub [1, 0] rfl ?_
              exact ih_102 (b + 1) (up1 he b ((he b) + (he (b - 1)))) (by omega) (fun x h9 => by by_cases e9 : x = b; (rw [e9, up1_s, h2 b (Nat.le_refl _) (by omega), h1 (b - 1) (by omega)]; obtain ⟨b2, rfl⟩ : ∃ b2, b = b2 + 1 := ⟨b - 1, (by omega)⟩; show _ + sumT _ b2 = sumT _ b2 + dsu (M 2) (M 4) B ((b2 + 1 : Nat) : Int) nv; omega); (rw [up1_n e9]; exact h1 x (by omega))) (fun x h8 h9 => by rw [up1_n (by omega)]; exact h2 x (by omega) h9) (by omega)
        refine ww_sub [1, 0] rfl ?_
        exact L_102 _ 1 he (by omega) (fun x h9 => by rw [show x = 0 by omega]; exact hif 0 (by omega)) (fun x _ h9 => hif x h9) (Nat.lt_succ_self _)
      · refine ww_iconst C dX2_countHeld_18 ?_
        refine ww_istore C dX2_countHeld_19 (lv' := [(4, .int (iZ 0)), (0, .ref (wa w 25)), (1, .ref (wa w 1)), (2, .ref (wa w 12)), (3, .int (iZ ((v : Nat) : Int)))]) (by rw [hkL]; decide) rfl ?_
        have L_21 : ∀ (fuel : Nat) (t : Nat) (he : Nat → Int) (ht : t ≤ np) (hi2 : ∀ x : Nat, x ≤ 512 → he x = dsu (M 2) (M 4) B (x : Int) v + upC (M 2) (M 4) B v (x : Int) (bdN (M 3) np t) - dnC (M 2) (M 4) B v (x : Int) (bdN (M 3) np t)), np - t < fuel → WW w k 21 [(0, .ref (wa w 25)), (1, .ref (wa w 1)), (2, .ref (wa w 12)), (3, .int (iZ ((v : Nat) : Int))), (4, .int (iZ ((t : Nat) : Int)))] [] (ups M 27 he) := by
          intro fuel
          induction fuel with
          | zero => intro t he ht hi2 hf_21; exact absurd hf_21 (Nat.not_lt_zero _)
          | succ fuel ih_21 =>
            intro t he ht hi2 hf_21
            have hc1 := hcd.1 t
            have hsb := stepZ_b (sz := M 2) (st := M 4) (v := v) (p := (M 3 t).toNat) (sg := 1) hs
            refine ww_iload C dX2_countHeld_21 4 rfl ?_
            refine ww_aload_n C dX2_countHeld_23 1 rfl ?_
            refine gt_X2_53 C dX2_countHeld_24 ?_
            refine ww_top (b := ((np : Nat) : Int)) (hnp) ?_
            refine ww_icmp_ge C 94 dX2_countHeld_27 (by decide) (by omega) (by omega) (fun c_27 => ?_) (fun c_27 => ?_)
            · refine ww_iinc2 C dX2_countHeld_94 3 rfl (b := ((v + 1 : Nat) : Int)) (by omega) (lv' := [(3, .int (iZ ((v + 1 : Nat) : Int))), (0, .ref (wa w 25)), (1, .ref (wa w 1)), (2, .ref (wa w 12)), (4, .int (iZ ((t : Nat) : Int)))]) (by rw [hkL]; decide) rfl ?_
              refine ww_goto C 10 dX2_countHeld_97 (by decide) ?_
              refine ww_sub [1, 2, 3, 0] rfl ?_
              exact ih_10 (v + 1) he (by omega) (fun x h9 => by have e9 := hi2 x h9; rw [show t = np by omega, bdN_out (Nat.le_refl np)] at e9; show _ = dsu _ _ _ _ v + (upC _ _ _ v _ 512 - dnC _ _ _ v _ 512); omega) (by omega)
            · refine ww_aload_n C dX2_countHeld_30 1 rfl ?_
              refine ww_iload_n C dX2_countHeld_31 3 rfl ?_
              refine ww_aload_n C dX2_countHeld_32 1 rfl ?_
              refine gt_X2_59 C dX2_countHeld_33 ?_
              refine ww_iload C dX2_countHeld_36 4 rfl ?_
              refine al_3 C t (z := (((M 3 t).toNat : Nat) : Int)) rfl (by omega) ((hcd.1 t (by omega)).1) dX2_countHeld_38 ?_
              refine ww_iconst C dX2_countHeld_39 ?_
              refine ww_callV C (As := [.int (iZ ((v : Nat) : Int)), .int (iZ (((M 3 t).toNat : Nat) : Int)), .int (iZ 1)]) 1 (by decide) (ct_X4_stepped w (ups M 27 he) v ((M 3 t).toNat) 1 (show v < 4 from by omega) (show ((M 3 t).toNat) < 512 from (hc1 (by omega)).2.1) (show 1 = 1 ∨ 1 = -1 from Or.inl rfl) (show SzOk ((M 2)) from hs) (show StOk ((M 4)) from hst)) mf_X4_stepped ml_X2_65 rfl rfl (by decide) rfl rfl (Nat.le_of_ble_eq_true rfl) dX2_countHeld_40 (fun z_40 M_40 hp_40 => ?_)
              rw [hp_40.1, hp_40.2]
              refine ww_top (b := stepZ ((M 2)) ((M 4)) v ((M 3 t).toNat) 1) rfl ?_
              refine ww_istore C dX2_countHeld_43 (lv' := [(5, .int (iZ (stepZ ((M 2)) ((M 4)) v ((M 3 t).toNat) 1))), (0, .ref (wa w 25)), (1, .ref (wa w 1)), (2, .ref (wa w 12)), (3, .int (iZ ((v : Nat) : Int))), (4, .int (iZ ((t : Nat) : Int)))]) (by rw [hkL]; decide) rfl ?_
              refine ww_iload C dX2_countHeld_45 0 rfl ?_
              refine ww_iconst C dX2_countHeld_47 ?_
              refine ww_icmp_eq C 88 dX2_countHeld_48 (by decide) (by omega) (by omega) (fun c_48 => ?_) (fun c_48 => ?_)
              · refine ww_iinc2 C dX2_countHeld_88 5 rfl (b := ((t + 1 : Nat) : Int)) (by omega) (lv' := [(4, .int (iZ ((t + 1 : Nat) : Int))), (5, .int (iZ (stepZ ((M 2)) ((M 4)) v ((M 3 t).toNat) 1))), (0, .ref (wa w 25)), (1, .ref (wa w 1)), (2, .ref (wa w 12)), (3, .int (iZ ((v : Nat) : Int)))]) (by rw [hkL]; decide) rfl ?_
                refine ww_goto C 21 dX2_countHeld_91 (by decide) ?_
                refine ww_sub [2, 3, 4, 5, 0] rfl ?_
                exact ih_21 (t + 1) he (by omega) (he_c2 hcd (by omega) c_48 hi2) (by omega)
              · have hnx := hn v (M 3 t).toNat (by omega) ⟨(hc1 (by omega)).2.2, c_48⟩
                have hbl := hB _ (hc1 (by omega)).2.2
                have hbm := hB _ hnx.1
                have hq5 := isP_lt hs hnx.1
                have hbi : B (M 3 t).toNat = (((B (M 3 t).toNat).toNat : Nat) : Int) := by omega
                have hbj : B (stepZ (M 2) (M 4) v (M 3 t).toNat 1).toNat = (((B (stepZ (M 2) (M 4) v (M 3 t).toNat 1).toNat).toNat : Nat) : Int) := by omega
                refine ww_aload_n C dX2_countHeld_51 1 rfl ?_
                refine gt_X2_19 C dX2_countHeld_52 ?_
                refine ww_aload_n C dX2_countHeld_55 3 rfl ?_
                refine gt_X2_56 C dX2_countHeld_56 ?_
                refine ww_aload_n C dX2_countHeld_59 2 rfl ?_
                refine gt_X2_59 C dX2_countHeld_60 ?_
                refine ww_iload C dX2_countHeld_63 5 rfl ?_
                refine al_3 C t (z := (((M 3 t).toNat : Nat) : Int)) rfl (by omega) ((hcd.1 t (by omega)).1) dX2_countHeld_65 ?_
                refine al_13 C ((M 3 t).toNat) (z := (((B (M 3 t).toNat).toNat : Nat) : Int)) rfl ((hc1 (by omega)).2.1) (show M 13 (M 3 t).toNat = _ from by omega) dX2_countHeld_66 ?_
                refine ww_dup2 C dX2_countHeld_67 rfl rfl ?_
                refine al_27 C ((B (M 3 t).toNat).toNat) (z := he ((B (M 3 t).toNat).toNat)) rfl (by omega) rfl dX2_countHeld_68 ?_
                refine ww_iconst C dX2_countHeld_69 ?_
                refine ww_iadd C dX2_countHeld_70 ?_
                refine as_27 C ((B (M 3 t).toNat).toNat) rfl (by omega) dX2_countHeld_71 ?_
                refine ww_mem (M1 := ups M 27 (up1 he ((B (M 3 t).toNat).toNat) ((he ((B (M 3 t).toNat).toNat)) + 1))) (ups_ups) ?_
                refine ww_aload_n C dX2_countHeld_72 1 rfl ?_
                refine gt_X2_19 C dX2_countHeld_73 ?_
                refine ww_aload_n C dX2_countHeld_76 3 rfl ?_
                refine gt_X2_56 C dX2_countHeld_77 ?_
                refine ww_iload C dX2_countHeld_80 0 rfl ?_
                refine al_13 C ((stepZ (M 2) (M 4) v (M 3 t).toNat 1).toNat) (z := (((B (stepZ (M 2) (M 4) v (M 3 t).toNat 1).toNat).toNat : Nat) : Int)) (by omega) (hq5) (show M 13 (stepZ (M 2) (M 4) v (M 3 t).toNat 1).toNat = _ from by omega) dX2_countHeld_82 ?_
                refine ww_dup2 C dX2_countHeld_83 rfl rfl ?_
                refine al_27 C ((B (stepZ (M 2) (M 4) v (M 3 t).toNat 1).toNat).toNat) (z := (up1 he ((B (M 3 t).toNat).toNat) ((he ((B (M 3 t).toNat).toNat)) + 1)) ((B (stepZ (M 2) (M 4) v (M 3 t).toNat 1).toNat).toNat)) rfl (by omega) rfl dX2_countHeld_84 ?_
                refine ww_iconst C dX2_countHeld_85 ?_
                refine ww_isub C dX2_countHeld_86 ?_
                refine as_27 C ((B (stepZ (M 2) (M 4) v (M 3 t).toNat 1).toNat).toNat) rfl (by omega) dX2_countHeld_87 ?_
                refine ww_mem (M1 := ups M 27 (up1 (up1 he ((B (M 3 t).toNat).toNat) ((he ((B (M 3 t).toNat).toNat)) + 1)) ((B (stepZ (M 2) (M 4) v (M 3 t).toNat 1).toNat).toNat) (((up1 he ((B (M 3 t).toNat).toNat) ((he ((B (M 3 t).toNat).toNat)) + 1)) ((B (stepZ (M 2) (M 4) v (M 3 t).toNat 1).toNat).toNat)) - 1))) (ups_ups) ?_
                refine ww_iinc2 C dX2_countHeld_88 5 rfl (b := ((t + 1 : Nat) : Int)) (by omega) (lv' := [(4, .int (iZ ((t + 1 : Nat) : Int))), (5, .int (iZ (stepZ ((M 2)) ((M 4)) v ((M 3 t).toNat) 1))), (0, .ref (wa w 25)), (1, .ref (wa w 1)), (2, .ref (wa w 12)), (3, .int (iZ ((v : Nat) : Int)))]) (by rw [hkL]; decide) rfl ?_
                refine ww_goto C 21 dX2_countHeld_91 (by decide) ?_
                refine ww_sub [2, 3, 4, 5, 0] rfl ?_
                exact ih_21 (t + 1) (up1 (up1 he ((B (M 3 t).toNat).toNat) ((he ((B (M 3 t).toNat).toNat)) + 1)) ((B (stepZ (M 2) (M 4) v (M 3 t).toNat 1).toNat).toNat) (((up1 he ((B (M 3 t).toNat).toNat) ((he ((B (M 3 t).toNat).toNat)) + 1)) ((B (stepZ (M 2) (M 4) v (M 3 t).toNat 1).toNat).toNat)) - 1)) (by omega) (he_c1 hcd (by omega) c_48 hbi hbj hi2) (by omega)
        refine ww_sub [1, 2, 3, 4, 0] rfl ?_
        exact L_21 _ 0 he (by omega) (fun x h9 => by rw [hi x h9, (he_0 hcd).1, (he_0 hcd).2]; omega) (Nat.lt_succ_self _)
  refine ww_sub [1, 2, 3, 0] rfl ?_
  exact L_10 _ 0 (fil 513 0 (M 27)) (by omega) (fun x h9 => by rw [fil_lt (by omega)]; rfl) (Nat.lt_succ_self _)
set_option maxRecDepth 100000 in
set_option maxHeartbeats 4000000 in
theorem ct_X2_hasBeat (w : WLD) (M : Mem) (b : Int) (hb : R32 b) (ht : M 25 0 = 0 ∨ M 25 0 = 1) (hbt : R32 (M 25 3)) : CtI w yX2_hasBeat cX2_hasBeat 2 (some .boolean) rm_X2_hasBeat [.ref (wa w 25), .int (iZ b)] M (fun z M1 => z = b2i (M 25 0 = 1 ∧ 0 ≤ b ∧ b < M 25 3) ∧ M1 = M) := by
  refine CtI.ofZ (by decide) (Nat.le_of_ble_eq_true rfl) rfl rfl (fun z M9 h9 => by rw [h9.1]; exact b2i_01 _) ?_
  intro k hkL C RT
  show WW w k 0 [(0, .ref (wa w 25)), (1, .int (iZ b))] [] M
  refine ww_aload_n C dX2_hasBeat_0 0 rfl ?_
  refine gt_X2_9 C dX2_hasBeat_1 ?_
  refine ww_if_eq C 23 dX2_hasBeat_4 (by decide) (by omega) (fun c_4 => ?_) (fun c_4 => ?_)
  · refine ww_iconst C dX2_hasBeat_23 ?_
    exact RT _ _ _ _ dX2_hasBeat_24 (⟨by first | exact (b2i_t (by omega)).symm | exact (b2i_f (by omega)).symm, rfl⟩)
  · refine ww_iload_n C dX2_hasBeat_7 1 rfl ?_
    refine ww_if_lt C 23 dX2_hasBeat_8 (by decide) (by omega) (fun c_8 => ?_) (fun c_8 => ?_)
    · refine ww_iconst C dX2_hasBeat_23 ?_
      exact RT _ _ _ _ dX2_hasBeat_24 (⟨by first | exact (b2i_t (by omega)).symm | exact (b2i_f (by omega)).symm, rfl⟩)
    · refine ww_iload_n C dX2_hasBeat_11 1 rfl ?_
      refine ww_aload_n C dX2_hasBeat_12 0 rfl ?_
      refine gt_X2_22 C dX2_hasBeat_13 ?_
      refine ww_icmp_ge C 23 dX2_hasBeat_16 (by decide) (by omega) (by omega) (fun c_16 => ?_) (fun c_16 => ?_)
      · refine ww_iconst C dX2_hasBeat_23 ?_
        exact RT _ _ _ _ dX2_hasBeat_24 (⟨by first | exact (b2i_t (by omega)).symm | exact (b2i_f (by omega)).symm, rfl⟩)
      · refine ww_iconst C dX2_hasBeat_19 ?_
        refine ww_goto C 24 dX2_hasBeat_20 (by decide) ?_
        exact RT _ _ _ _ dX2_hasBeat_24 (⟨by first | exact (b2i_t (by omega)).symm | exact (b2i_f (by omega)).symm, rfl⟩)
set_option maxRecDepth 100000 in
set_option maxHeartbeats 4000000 in
theorem ct_X2_pointAt (w : WLD) (M : Mem) (B : Nat → Int) (bt b : Nat) (c d : Int) (hs : SzOk (M 2)) (hb : b < bt) (hb5 : bt ≤ 512) (hso : SoOk (M 2) B bt (M 29) (M 28)) (hc : R32 c) (hd : R32 d) (hcR : ∀ p : Nat, isP (M 2) p → R32 (M 14 p) ∧ R32 (M 15 p)) : CtI w yX2_pointAt cX2_pointAt 7 (some .int) rm_X2_pointAt [.ref (wa w 25), .ref (wa w 12), .int (iZ ((b : Nat) : Int)), .int (iZ c), .int (iZ d)] M (fun z M1 => isFst (fun p => isP (M 2) p ∧ B p = (b : Int) ∧ M 14 p = c ∧ M 15 p = d) 512 z ∧ M1 = M) := by
  refine CtI.of (by decide) (Nat.le_of_ble_eq_true rfl) rfl rfl ?_
  intro k hkL C RT
  have s1 := hso.1 b (by omega)
  have s2 := hso.1 (b + 1) (by omega)
  have s3 := cnt_b (fun r => isP (M 2) r ∧ B r < (b : Int)) 512
  have s4 := cnt_b (fun r => isP (M 2) r ∧ B r < ((b + 1 : Nat) : Int)) 512
  have s5 := cnt_lt1 (sz := M 2) (B := B) b 512
  have s6 := cnt_b (fun r => isP (M 2) r ∧ B r = (b : Int)) 512
  show WW w k 0 [(0, .ref (wa w 25)), (1, .ref (wa w 12)), (2, .int (iZ ((b : Nat) : Int))), (3, .int (iZ c)), (4, .int (iZ d))] [] M
  refine ww_aload_n C dX2_pointAt_0 0 rfl ?_
  refine gt_X2_29 C dX2_pointAt_1 ?_
  refine ww_iload_n C dX2_pointAt_4 2 rfl ?_
  refine al_29 C b (z := (((M 29 b).toNat : Nat) : Int)) rfl (by omega) (show M 29 b = _ from by omega) dX2_pointAt_5 ?_
  refine ww_istore C dX2_pointAt_6 (lv' := [(5, .int (iZ (((M 29 b).toNat : Nat) : Int))), (0, .ref (wa w 25)), (1, .ref (wa w 12)), (2, .int (iZ ((b : Nat) : Int))), (3, .int (iZ c)), (4, .int (iZ d))]) (by rw [hkL]; decide) rfl ?_
  have L_8 : ∀ (fuel : Nat) (n e : Nat) (hn : M 29 b ≤ (n : Int) ∧ (n : Int) ≤ M 29 (b + 1)) (he : cnt (fun r => isP (M 2) r ∧ B r = (b : Int)) e = (n : Int) - M 29 b) (hno : ∀ p : Nat, p < e → ¬ (fun p => isP (M 2) p ∧ B p = (b : Int) ∧ M 14 p = c ∧ M 15 p = d) p), 512 - n < fuel → WW w k 8 [(0, .ref (wa w 25)), (1, .ref (wa w 12)), (2, .int (iZ ((b : Nat) : Int))), (3, .int (iZ c)), (4, .int (iZ d)), (5, .int (iZ ((n : Nat) : Int)))] [] M := by
    intro fuel
    induction fuel with
    | zero => intro n e hn he hno hf_8; exact absurd hf_8 (Nat.not_lt_zero _)
    | succ fuel ih_8 =>
      intro n e hn he hno hf_8
      refine ww_iload C dX2_pointAt_8 5 rfl ?_
      refine ww_aload_n C dX2_pointAt_10 0 rfl ?_
      refine gt_X2_29 C dX2_pointAt_11 ?_
      refine ww_iload_n C dX2_pointAt_14 2 rfl ?_
      refine ww_iconst C dX2_pointAt_15 ?_
      refine ww_iadd C dX2_pointAt_16 ?_
      refine al_29 C (b + 1) (z := M 29 (b + 1)) (by omega) (by omega) rfl dX2_pointAt_17 ?_
      refine ww_icmp_ge C 62 dX2_pointAt_18 (by decide) (by omega) (by omega) (fun c_18 => ?_) (fun c_18 => ?_)
      · refine ww_iconst C dX2_pointAt_62 ?_
        exact RT _ _ _ _ dX2_pointAt_63 (⟨Or.inl ⟨rfl, fun u h9 h8 => by rcases Nat.lt_or_ge u e with b9 | b9; exact hno u b9 h8; exact cnt_no (P := fun r => isP (M 2) r ∧ B r = (b : Int)) (a := e) (b := 512) (by omega) u b9 h9 ⟨h8.1, h8.2.1⟩⟩, rfl⟩)
      · obtain ⟨pp, hp1, hp2, hp3, hp4⟩ := so_at hs hso hb hn.1 (by omega)
        have hp5 := isP_lt hs hp1
        have hp6 := hcR pp hp1
        refine ww_aload_n C dX2_pointAt_21 0 rfl ?_
        refine gt_X2_26 C dX2_pointAt_22 ?_
        refine ww_iload C dX2_pointAt_25 5 rfl ?_
        refine al_28 C n (z := ((pp : Nat) : Int)) rfl (by omega) (hp3) dX2_pointAt_27 ?_
        refine ww_istore C dX2_pointAt_28 (lv' := [(6, .int (iZ ((pp : Nat) : Int))), (0, .ref (wa w 25)), (1, .ref (wa w 12)), (2, .int (iZ ((b : Nat) : Int))), (3, .int (iZ c)), (4, .int (iZ d)), (5, .int (iZ ((n : Nat) : Int)))]) (by rw [hkL]; decide) rfl ?_
        refine ww_aload_n C dX2_pointAt_30 2 rfl ?_
        refine gt_X2_69 C dX2_pointAt_31 ?_
        refine ww_iload C dX2_pointAt_34 0 rfl ?_
        refine al_14 C pp (z := M 14 pp) rfl (by omega) rfl dX2_pointAt_36 ?_
        refine ww_iload_n C dX2_pointAt_37 4 rfl ?_
        refine ww_icmp_ne C 56 dX2_pointAt_38 (by decide) (hp6.1) (hc) (fun c_38 => ?_) (fun c_38 => ?_)
        · refine ww_iinc2 C dX2_pointAt_56 6 rfl (b := ((n + 1 : Nat) : Int)) (by omega) (lv' := [(5, .int (iZ ((n + 1 : Nat) : Int))), (6, .int (iZ ((pp : Nat) : Int))), (0, .ref (wa w 25)), (1, .ref (wa w 12)), (2, .int (iZ ((b : Nat) : Int))), (3, .int (iZ c)), (4, .int (iZ d))]) (by rw [hkL]; decide) rfl ?_
          refine ww_goto C 8 dX2_pointAt_59 (by decide) ?_
          refine ww_sub [2, 3, 4, 5, 6, 0] rfl ?_
          exact ih_8 (n + 1) (pp + 1) (by omega) (by rw [cnt_t (P := fun r => isP (M 2) r ∧ B r = (b : Int)) ⟨hp1, hp2⟩, hp4]; omega) (fun u h9 h8 => by rcases Nat.lt_trichotomy u pp with a9 | a9 | a9; (rcases Nat.lt_or_ge u e with b9 | b9; exact hno u b9 h8; exact cnt_no (P := fun r => isP (M 2) r ∧ B r = (b : Int)) (by rw [he, hp4]) u b9 a9 ⟨h8.1, h8.2.1⟩); (rw [a9] at h8; first | exact c_38 h8.2.2.1 | exact c_50 h8.2.2.2); omega) (by omega)
        · refine ww_aload_n C dX2_pointAt_41 2 rfl ?_
          refine gt_X2_72 C dX2_pointAt_42 ?_
          refine ww_iload C dX2_pointAt_45 0 rfl ?_
          refine al_15 C pp (z := M 15 pp) rfl (by omega) rfl dX2_pointAt_47 ?_
          refine ww_iload C dX2_pointAt_48 5 rfl ?_
          refine ww_icmp_ne C 56 dX2_pointAt_50 (by decide) (hp6.2) (hd) (fun c_50 => ?_) (fun c_50 => ?_)
          · refine ww_iinc2 C dX2_pointAt_56 6 rfl (b := ((n + 1 : Nat) : Int)) (by omega) (lv' := [(5, .int (iZ ((n + 1 : Nat) : Int))), (6, .int (iZ ((pp : Nat) : Int))), (0, .ref (wa w 25)), (1, .ref (wa w 12)), (2, .int (iZ ((b : Nat) : Int))), (3, .int (iZ c)), (4, .int (iZ d))]) (by rw [hkL]; decide) rfl ?_
            refine ww_goto C 8 dX2_pointAt_59 (by decide) ?_
            refine ww_sub [2, 3, 4, 5, 6, 0] rfl ?_
            exact ih_8 (n + 1) (pp + 1) (by omega) (by rw [cnt_t (P := fun r => isP (M 2) r ∧ B r = (b : Int)) ⟨hp1, hp2⟩, hp4]; omega) (fun u h9 h8 => by rcases Nat.lt_trichotomy u pp with a9 | a9 | a9; (rcases Nat.lt_or_ge u e with b9 | b9; exact hno u b9 h8; exact cnt_no (P := fun r => isP (M 2) r ∧ B r = (b : Int)) (by rw [he, hp4]) u b9 a9 ⟨h8.1, h8.2.1⟩); (rw [a9] at h8; first | exact c_38 h8.2.2.1 | exact c_50 h8.2.2.2); omega) (by omega)
          · refine ww_iload C dX2_pointAt_53 0 rfl ?_
            exact RT _ _ _ _ dX2_pointAt_55 (⟨Or.inr ⟨pp, rfl, hp5, ⟨hp1, hp2, c_38, c_50⟩, fun u h9 h8 => by rcases Nat.lt_or_ge u e with b9 | b9; exact hno u b9 h8; exact cnt_no (P := fun r => isP (M 2) r ∧ B r = (b : Int)) (by rw [he, hp4]) u b9 h9 ⟨h8.1, h8.2.1⟩⟩, rfl⟩)
  refine ww_sub [1, 2, 3, 4, 5, 0] rfl ?_
  exact L_8 _ ((M 29 b).toNat) 0 (by omega) (by show (0 : Int) = _; omega) (fun p h9 => absurd h9 (Nat.not_lt_zero _)) (Nat.lt_succ_self _)
set_option maxRecDepth 100000 in
set_option maxHeartbeats 4000000 in
theorem ct_X2_work (w : WLD) (M : Mem) (B : Nat → Int) (nv np bt : Nat) (hnv : M 1 3 = (nv : Int)) (hn4 : nv ≤ 4) (hs : SzOk (M 2)) (hst : StOk (M 4)) (hac : ∀ v : Nat, v < nv → 0 ≤ M 5 v ∧ M 5 v ≤ 7) (hlf : ∀ v : Nat, v < nv → 0 ≤ M 6 v ∧ M 6 v < nv) (hrt : ∀ v : Nat, v < nv → 0 ≤ M 7 v ∧ M 7 v < nv) (hed : ∀ q : Nat, R32 (M 8 q)) (hnp : M 1 2 = (np : Int)) (hcd : CdOk (M 2) (M 3) np) (hbt : M 12 4 = (bt : Int)) (hb5 : 1 ≤ bt ∧ bt ≤ 512) (hB : ∀ p : Nat, isP (M 2) p → M 13 p = B p ∧ 0 ≤ B p ∧ B p < (bt : Int)) (hn : ∀ v p : Nat, v < nv → nxP (M 2) (M 4) v p → isP (M 2) (stepZ (M 2) (M 4) v p 1).toNat ∧ B p < B (stepZ (M 2) (M 4) v p 1).toNat) (har : ∀ q : Nat, R32 (M 26 q)) : CtI w yX2_work cX2_work 6 (some .int) rm_X2_work [.ref (wa w 25), .ref (wa w 1), .ref (wa w 12)] M (fun z M1 => z = (np : Int) ∧ ∃ stt od he : Nat → Int, SoOk (M 2) B bt stt od ∧ (∀ b : Nat, b < bt → he b = hsu (M 2) (M 4) B (b : Int) nv) ∧ M1 = ups (ups (ups (ups (ups M 25 (up1 (up1 (M 25) 3 ((bt : Nat) : Int)) 0 1)) 29 stt) 28 od) 26 (outB (M 2) (M 4) (M 5) (M 6) (M 7) (M 8) B nv (M 26) bt)) 27 he) := by
  refine CtI.of (by decide) (Nat.le_of_ble_eq_true rfl) rfl rfl ?_
  intro k hkL C RT
  have hnp9 := hcd.2.2.2.2
  show WW w k 0 [(0, .ref (wa w 25)), (1, .ref (wa w 1)), (2, .ref (wa w 12))] [] M
  refine ww_aload_n C dX2_work_0 0 rfl ?_
  refine ww_aload_n C dX2_work_1 2 rfl ?_
  refine gt_X2_32 C dX2_work_2 ?_
  refine ww_top (b := ((bt : Nat) : Int)) (hbt) ?_
  refine pt_X2_22 C dX2_work_5 ?_
  refine ww_aload_n C dX2_work_8 0 rfl ?_
  refine ww_aload_n C dX2_work_9 1 rfl ?_
  refine ww_aload_n C dX2_work_10 2 rfl ?_
  refine ww_callVV C (As := [.ref (wa w 1), .ref (wa w 12)]) 25 (by decide) (ct_X2_sortByBeat w (ups M 25 (up1 (M 25) 3 ((bt : Nat) : Int))) B np bt (show SzOk ((M 2)) from hs) (show (M 1) 2 = (np : Int) from hnp) (show CdOk ((M 2)) ((M 3)) np from hcd) (show (up1 (M 25) 3 ((bt : Nat) : Int)) 3 = (bt : Int) from rfl) (show 1 ≤ bt ∧ bt ≤ 512 from hb5) (show ∀ p : Nat, isP ((M 2)) p → (M 13) p = B p ∧ 0 ≤ B p ∧ B p < (bt : Int) from hB)) mf_X2_sortByBeat ml_X2_35 rfl rfl (by decide) rfl rfl (Nat.le_of_ble_eq_true rfl) dX2_work_11 (fun M_11 hp_11 => ?_)
  obtain ⟨stt_11, od_11, hso_11, hm_11⟩ := hp_11
  have hso_11 : SoOk (M 2) B bt stt_11 od_11 := hso_11
  refine ww_mem (M1 := ups (ups (ups M 25 (up1 (M 25) 3 ((bt : Nat) : Int))) 29 stt_11) 28 od_11) (hm_11) ?_
  refine ww_iconst C dX2_work_14 ?_
  refine ww_istore_n C dX2_work_15 (lv' := [(3, .int (iZ 0)), (0, .ref (wa w 25)), (1, .ref (wa w 1)), (2, .ref (wa w 12))]) (by rw [hkL]; decide) rfl ?_
  refine ww_iconst C dX2_work_16 ?_
  refine ww_istore C dX2_work_17 (lv' := [(4, .int (iZ 0)), (3, .int (iZ 0)), (0, .ref (wa w 25)), (1, .ref (wa w 1)), (2, .ref (wa w 12))]) (by rw [hkL]; decide) rfl ?_
  have L_19 : ∀ (fuel : Nat) (b u : Nat) (hb : b ≤ bt) (hu : (u : Int) = stt_11 b), bt - b < fuel → WW w k 19 [(0, .ref (wa w 25)), (1, .ref (wa w 1)), (2, .ref (wa w 12)), (3, .int (iZ ((u : Nat) : Int))), (4, .int (iZ ((b : Nat) : Int)))] [] (ups (ups (ups (ups M 25 (up1 (M 25) 3 ((bt : Nat) : Int))) 29 stt_11) 28 od_11) 26 (outB (M 2) (M 4) (M 5) (M 6) (M 7) (M 8) B nv (M 26) b)) := by
    intro fuel
    induction fuel with
    | zero => intro b u hb hu hf_19; exact absurd hf_19 (Nat.not_lt_zero _)
    | succ fuel ih_19 =>
      intro b u hb hu hf_19
      have s1 := hso_11.1 b (by omega)
      have s2 : b < bt → stt_11 (b + 1) = _ := fun h9 => hso_11.1 (b + 1) (by omega)
      have s3 := cnt_b (fun r => isP (M 2) r ∧ B r < (b : Int)) 512
      have s4 := cnt_b (fun r => isP (M 2) r ∧ B r < ((b + 1 : Nat) : Int)) 512
      have s5 := cnt_lt1 (sz := M 2) (B := B) b 512
      have s6 := cnt_b (fun r => isP (M 2) r ∧ B r = (b : Int)) 512
      refine ww_iload C dX2_work_19 4 rfl ?_
      refine ww_aload_n C dX2_work_21 0 rfl ?_
      refine gt_X2_22 C dX2_work_22 ?_
      refine ww_top (b := ((bt : Nat) : Int)) (rfl) ?_
      refine ww_icmp_ge C 81 dX2_work_25 (by decide) (by omega) (by omega) (fun c_25 => ?_) (fun c_25 => ?_)
      · refine ww_mem (M1 := ups (ups (ups (ups M 25 (up1 (M 25) 3 ((bt : Nat) : Int))) 29 stt_11) 28 od_11) 26 (outB (M 2) (M 4) (M 5) (M 6) (M 7) (M 8) B nv (M 26) bt)) (by rw [show b = bt by omega]) ?_
        refine ww_aload_n C dX2_work_81 0 rfl ?_
        refine ww_aload_n C dX2_work_82 1 rfl ?_
        refine ww_aload_n C dX2_work_83 2 rfl ?_
        refine ww_callVV C (As := [.ref (wa w 1), .ref (wa w 12)]) 25 (by decide) (ct_X2_countHeld w (ups (ups (ups (ups M 25 (up1 (M 25) 3 ((bt : Nat) : Int))) 29 stt_11) 28 od_11) 26 (outB (M 2) (M 4) (M 5) (M 6) (M 7) (M 8) B nv (M 26) bt)) B nv np bt (show SzOk ((M 2)) from hs) (show StOk ((M 4)) from hst) (show (M 1) 3 = (nv : Int) from hnv) (show nv ≤ 4 from hn4) (show (M 1) 2 = (np : Int) from hnp) (show CdOk ((M 2)) ((M 3)) np from hcd) (show (up1 (M 25) 3 ((bt : Nat) : Int)) 3 = (bt : Int) from rfl) (show 1 ≤ bt ∧ bt ≤ 512 from hb5) (show ∀ p : Nat, isP ((M 2)) p → (M 13) p = B p ∧ 0 ≤ B p ∧ B p < (bt : Int) from hB) (show ∀ v p : Nat, v < nv → nxP ((M 2)) ((M 4)) v p → isP ((M 2)) (stepZ ((M 2)) ((M 4)) v p 1).toNat ∧ B p < B (stepZ ((M 2)) ((M 4)) v p 1).toNat from hn)) mf_X2_countHeld ml_X2_45 rfl rfl (by decide) rfl rfl (Nat.le_of_ble_eq_true rfl) dX2_work_84 (fun M_84 hp_84 => ?_)
        obtain ⟨he_84, hhe_84, hm_84⟩ := hp_84
        have hhe_84 : ∀ b : Nat, b < bt → he_84 b = hsu (M 2) (M 4) B (b : Int) nv := hhe_84
        refine ww_mem (M1 := ups (ups (ups (ups (ups M 25 (up1 (M 25) 3 ((bt : Nat) : Int))) 29 stt_11) 28 od_11) 26 (outB (M 2) (M 4) (M 5) (M 6) (M 7) (M 8) B nv (M 26) bt)) 27 he_84) (hm_84) ?_
        refine ww_aload_n C dX2_work_87 0 rfl ?_
        refine ww_iconst C dX2_work_88 ?_
        refine pt_X2_9 C (by decide) dX2_work_89 ?_
        refine ww_mem (M1 := ups (ups (ups (ups (ups M 25 (up1 (up1 (M 25) 3 ((bt : Nat) : Int)) 0 1)) 29 stt_11) 28 od_11) 26 (outB (M 2) (M 4) (M 5) (M 6) (M 7) (M 8) B nv (M 26) bt)) 27 he_84) (((ups_comm (by decide)).trans (congrArg (fun X9 => ups X9 27 he_84) ((ups_comm (by decide)).trans (congrArg (fun X9 => ups X9 26 (outB (M 2) (M 4) (M 5) (M 6) (M 7) (M 8) B nv (M 26) bt)) ((ups_comm (by decide)).trans (congrArg (fun X9 => ups X9 28 od_11) ((ups_comm (by decide)).trans (congrArg (fun X9 => ups X9 29 stt_11) ups_ups))))))))) ?_
        refine ww_iload_n C dX2_work_92 3 rfl ?_
        exact RT _ _ _ _ dX2_work_93 (⟨by rw [hu, show b = bt by omega, hso_11.1 bt (Nat.le_refl _), hcd.2.2.2.1]; exact cnt_c (fun p _ => ⟨fun h9 => h9.1, fun h9 => ⟨h9, (hB p h9).2.2⟩⟩), stt_11, od_11, he_84, hso_11, hhe_84, rfl⟩)
      · refine ww_aload_n C dX2_work_28 0 rfl ?_
        refine gt_X2_29 C dX2_work_29 ?_
        refine ww_iload C dX2_work_32 4 rfl ?_
        refine al_29 C b (z := ((u : Nat) : Int)) rfl (by omega) (show stt_11 b = _ from by omega) dX2_work_34 ?_
        have s2 := s2 (by omega)
        refine ww_istore C dX2_work_35 (lv' := [(5, .int (iZ ((u : Nat) : Int))), (0, .ref (wa w 25)), (1, .ref (wa w 1)), (2, .ref (wa w 12)), (3, .int (iZ ((u : Nat) : Int))), (4, .int (iZ ((b : Nat) : Int)))]) (by rw [hkL]; decide) rfl ?_
        have L_37 : ∀ (fuel : Nat) (n e : Nat) (hn1 : stt_11 b ≤ (n : Int) ∧ (n : Int) ≤ stt_11 (b + 1)) (he : cnt (fun r => isP (M 2) r ∧ B r = (b : Int)) e = (n : Int) - stt_11 b), 512 - n < fuel → WW w k 37 [(0, .ref (wa w 25)), (1, .ref (wa w 1)), (2, .ref (wa w 12)), (3, .int (iZ ((n : Nat) : Int))), (4, .int (iZ ((b : Nat) : Int))), (5, .int (iZ ((n : Nat) : Int)))] [] (ups (ups (ups (ups M 25 (up1 (M 25) 3 ((bt : Nat) : Int))) 29 stt_11) 28 od_11) 26 (inB (M 2) (M 4) (M 5) (M 6) (M 7) (M 8) B nv b (outB (M 2) (M 4) (M 5) (M 6) (M 7) (M 8) B nv (M 26) b) e)) := by
          intro fuel
          induction fuel with
          | zero => intro n e hn1 he hf_37; exact absurd hf_37 (Nat.not_lt_zero _)
          | succ fuel ih_37 =>
            intro n e hn1 he hf_37
            refine ww_iload C dX2_work_37 5 rfl ?_
            refine ww_aload_n C dX2_work_39 0 rfl ?_
            refine gt_X2_29 C dX2_work_40 ?_
            refine ww_iload C dX2_work_43 4 rfl ?_
            refine ww_iconst C dX2_work_45 ?_
            refine ww_iadd C dX2_work_46 ?_
            refine al_29 C (b + 1) (z := stt_11 (b + 1)) (by omega) (by omega) rfl dX2_work_47 ?_
            refine ww_icmp_ge C 75 dX2_work_48 (by decide) (by omega) (by omega) (fun c_48 => ?_) (fun c_48 => ?_)
            · refine ww_mem (M1 := ups (ups (ups (ups M 25 (up1 (M 25) 3 ((bt : Nat) : Int))) 29 stt_11) 28 od_11) 26 (outB (M 2) (M 4) (M 5) (M 6) (M 7) (M 8) B nv (M 26) (b + 1))) (by rw [inB_eq (x := e) (y := 512) (by rw [he]; omega)]; rfl) ?_
              refine ww_iinc2 C dX2_work_75 4 rfl (b := ((b + 1 : Nat) : Int)) (by omega) (lv' := [(4, .int (iZ ((b + 1 : Nat) : Int))), (0, .ref (wa w 25)), (1, .ref (wa w 1)), (2, .ref (wa w 12)), (3, .int (iZ ((n : Nat) : Int))), (5, .int (iZ ((n : Nat) : Int)))]) (by rw [hkL]; decide) rfl ?_
              refine ww_goto C 19 dX2_work_78 (by decide) ?_
              refine ww_sub [1, 2, 3, 4, 0] rfl ?_
              exact ih_19 (b + 1) n (by omega) (by omega) (by omega)
            · obtain ⟨pp, hp1, hp2, hp3, hp4⟩ := so_at hs hso_11 (by omega) hn1.1 (by omega)
              have hp5 := isP_lt hs hp1
              refine ww_aload_n C dX2_work_51 1 rfl ?_
              refine ww_aload_n C dX2_work_52 0 rfl ?_
              refine gt_X2_15 C dX2_work_53 ?_
              refine ww_aload_n C dX2_work_56 0 rfl ?_
              refine gt_X2_26 C dX2_work_57 ?_
              refine ww_iload C dX2_work_60 5 rfl ?_
              refine al_28 C n (z := ((pp : Nat) : Int)) rfl (by omega) (hp3) dX2_work_62 ?_
              refine ww_callVV C (As := [.ref (wa w 26), .int (iZ ((pp : Nat) : Int))]) 1 (by decide) (ct_X4_workPoint_26 w (ups (ups (ups (ups M 25 (up1 (M 25) 3 ((bt : Nat) : Int))) 29 stt_11) 28 od_11) 26 (inB (M 2) (M 4) (M 5) (M 6) (M 7) (M 8) B nv b (outB (M 2) (M 4) (M 5) (M 6) (M 7) (M 8) B nv (M 26) b) e)) nv pp (show pp < 512 from hp5) (show (M 1) 3 = (nv : Int) from hnv) (show nv ≤ 4 from hn4) (show SzOk ((M 2)) from hs) (show StOk ((M 4)) from hst) (show ∀ v : Nat, v < nv → 0 ≤ (M 5) v ∧ (M 5) v ≤ 7 from hac) (show ∀ v : Nat, v < nv → 0 ≤ (M 6) v ∧ (M 6) v < nv from hlf) (show ∀ v : Nat, v < nv → 0 ≤ (M 7) v ∧ (M 7) v < nv from hrt) (show ∀ q : Nat, R32 ((M 8) q) from hed) (show ∀ q : Nat, R32 ((inB (M 2) (M 4) (M 5) (M 6) (M 7) (M 8) B nv b (outB (M 2) (M 4) (M 5) (M 6) (M 7) (M 8) B nv (M 26) b) e) q) from fun q9 => inB_R hed (outB_R hed har b) _ q9)) mf_X4_workPoint ml_X2_39 rfl rfl (by decide) rfl rfl (Nat.le_of_ble_eq_true rfl) dX2_work_63 (fun M_63 hp_63 => ?_)
              rw [hp_63]
              refine ww_mem (M1 := ups (ups (ups (ups M 25 (up1 (M 25) 3 ((bt : Nat) : Int))) 29 stt_11) 28 od_11) 26 (wkA ((M 2)) ((M 4)) ((M 5)) ((M 6)) ((M 7)) ((M 8)) ((inB (M 2) (M 4) (M 5) (M 6) (M 7) (M 8) B nv b (outB (M 2) (M 4) (M 5) (M 6) (M 7) (M 8) B nv (M 26) b) e)) pp nv)) ups_ups ?_
              refine ww_mem (M1 := ups (ups (ups (ups M 25 (up1 (M 25) 3 ((bt : Nat) : Int))) 29 stt_11) 28 od_11) 26 (inB (M 2) (M 4) (M 5) (M 6) (M 7) (M 8) B nv b (outB (M 2) (M 4) (M 5) (M 6) (M 7) (M 8) B nv (M 26) b) (pp + 1))) (by rw [inB_p ⟨hp1, hp2⟩, inB_eq (x := pp) (y := e) (by rw [he, hp4])]) ?_
              refine ww_iinc2 C dX2_work_66 3 rfl (b := ((n + 1 : Nat) : Int)) (by omega) (lv' := [(3, .int (iZ ((n + 1 : Nat) : Int))), (0, .ref (wa w 25)), (1, .ref (wa w 1)), (2, .ref (wa w 12)), (4, .int (iZ ((b : Nat) : Int))), (5, .int (iZ ((n : Nat) : Int)))]) (by rw [hkL]; decide) rfl ?_
              refine ww_iinc2 C dX2_work_69 5 rfl (b := ((n + 1 : Nat) : Int)) (by omega) (lv' := [(5, .int (iZ ((n + 1 : Nat) : Int))), (3, .int (iZ ((n + 1 : Nat) : Int))), (0, .ref (wa w 25)), (1, .ref (wa w 1)), (2, .ref (wa w 12)), (4, .int (iZ ((b : Nat) : Int)))]) (by rw [hkL]; decide) rfl ?_
              refine ww_goto C 37 dX2_work_72 (by decide) ?_
              refine ww_sub [2, 3, 4, 1, 5, 0] rfl ?_
              exact ih_37 (n + 1) (pp + 1) (by omega) (by rw [cnt_t (P := fun r => isP (M 2) r ∧ B r = (b : Int)) ⟨hp1, hp2⟩, hp4]; omega) (by omega)
        refine ww_sub [1, 2, 3, 4, 5, 0] rfl ?_
        refine ww_mem (M1 := ups (ups (ups (ups M 25 (up1 (M 25) 3 ((bt : Nat) : Int))) 29 stt_11) 28 od_11) 26 (inB (M 2) (M 4) (M 5) (M 6) (M 7) (M 8) B nv b (outB (M 2) (M 4) (M 5) (M 6) (M 7) (M 8) B nv (M 26) b) 0)) (rfl) ?_
        exact L_37 _ u 0 (by omega) (by show (0 : Int) = _; omega) (Nat.lt_succ_self _)
  refine ww_sub [2, 3, 4, 1, 0] rfl ?_
  refine ww_mem (M1 := ups (ups (ups (ups M 25 (up1 (M 25) 3 ((bt : Nat) : Int))) 29 stt_11) 28 od_11) 26 (M 26)) ((ups_id (M := ups (ups (ups M 25 (up1 (M 25) 3 ((bt : Nat) : Int))) 29 stt_11) 28 od_11) (h := 26)).symm) ?_
  exact L_19 _ 0 0 (by omega) (by rw [hso_11.1 0 (by omega)]; exact (cnt_skip (a := 0) (Nat.zero_le _) (fun p _ _ h8 => by have e8 := (hB p h8.1).2.1; have e7 := h8.2; omega)).symm) (Nat.lt_succ_self _)
