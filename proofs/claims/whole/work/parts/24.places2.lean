set_option maxRecDepth 100000 in
set_option maxHeartbeats 4000000 in
theorem ct_X0_apart (w : WLD) (M : Mem) (K : Nat → Int) (np : Nat) (hla : R32 (M 12 6)) (hs : SzOk (M 2)) (hnp : M 1 2 = (np : Int)) (hcd : CdOk (M 2) (M 3) np) (hah : AhOk (M 2) K (M 17)) (hbe : ∀ u : Nat, isP (M 2) u → 0 ≤ M 13 u ∧ M 13 u < M 12 4) (hbb : 1 ≤ M 12 4 ∧ M 12 4 ≤ 512) (hb0 : ∀ d : Nat, M 18 d = 0 ∨ M 18 d = 1) (hb5 : ∀ d : Nat, 512 ≤ d → M 18 d = 0) : CtI w yX0_apart cX0_apart 3 (some .int) rm_X0_apart [.ref (wa w 12), .ref (wa w 1)] M (fun z M1 => (M 12 6 ≠ -1 ∧ z = -1 ∧ M1 = M) ∨ (M 12 6 = -1 ∧ apR (dsP (M 2) K (M 13) 512) z ∧ ∃ bt : Nat → Int, (∀ d : Nat, bt d = 0 ∨ bt d = 1) ∧ (∀ d : Nat, 512 ≤ d → bt d = 0) ∧ M1 = ups M 18 bt)) := by
  refine CtI.of (by decide) (Nat.le_of_ble_eq_true rfl) rfl rfl ?_
  intro k hkL C RT
  have hnp9 := hcd.2.2.2.2
  show WW w k 0 [(0, .ref (wa w 12)), (1, .ref (wa w 1))] [] M
  refine ww_aload_n C dX0_apart_0 0 rfl ?_
  refine gt_X0_25 C dX0_apart_1 ?_
  refine ww_iconst C dX0_apart_4 ?_
  refine ww_icmp_eq C 10 dX0_apart_5 (by decide) (by omega) (by omega) (fun c_5 => ?_) (fun c_5 => ?_)
  · refine ww_aload_n C dX0_apart_10 0 rfl ?_
    refine gt_X0_38 C dX0_apart_11 ?_
    refine ww_iconst C dX0_apart_14 ?_
    refine ww_callSV C (As := [.ref (wa w 18), .int (iZ 0)]) (ct_J7_fill_53178 w M 18 512 0 (by decide) (fun _ => rfl) (by decide)) mf_J7_fill_53178 ml_X0_88 (by decide) rfl rfl (Nat.le_of_ble_eq_true rfl) dX0_apart_15 (fun M_15 hp_15 => ?_)
    rw [hp_15]
    refine ww_mem (M1 := ups M 18 (fil 512 0 (M 18))) rfl ?_
    refine ww_iconst C dX0_apart_18 ?_
    refine ww_istore_n C dX0_apart_19 (lv' := [(2, .int (iZ 0)), (0, .ref (wa w 12)), (1, .ref (wa w 1))]) (by rw [hkL]; decide) rfl ?_
    have L_20 : ∀ (fuel : Nat) (t : Nat) (bt : Nat → Int) (ht : t ≤ np) (hbt : ∀ d : Nat, (bt d = 0 ∨ bt d = 1) ∧ (bt d = 1 ↔ dsP (M 2) K (M 13) (bdN (M 3) np t) d)), np - t < fuel → WW w k 20 [(0, .ref (wa w 12)), (1, .ref (wa w 1)), (2, .int (iZ ((t : Nat) : Int)))] [] (ups M 18 bt) := by
      intro fuel
      induction fuel with
      | zero => intro t bt ht hbt hf_20; exact absurd hf_20 (Nat.not_lt_zero _)
      | succ fuel ih_20 =>
        intro t bt ht hbt hf_20
        have hc1 := hcd.1 t
        refine ww_iload_n C dX0_apart_20 2 rfl ?_
        refine ww_aload_n C dX0_apart_21 1 rfl ?_
        refine gt_X0_51 C dX0_apart_22 ?_
        refine ww_top (b := ((np : Nat) : Int)) (hnp) ?_
        refine ww_icmp_ge C 44 dX0_apart_25 (by decide) (by omega) (by omega) (fun c_25 => ?_) (fun c_25 => ?_)
        · have hbf : ∀ d : Nat, (bt d = 0 ∨ bt d = 1) ∧ (bt d = 1 ↔ dsP (M 2) K (M 13) 512 d) := by
            intro d
            have e9 := hbt d
            rw [show t = np by omega, bdN_out (Nat.le_refl np)] at e9
            exact e9
          have hds : ∀ d : Nat, dsP (M 2) K (M 13) 512 d → (d : Int) < M 12 4 := fun d h9 => dsP_b hbe h9
          have hb9 : ∀ d : Nat, 512 ≤ d → bt d = 0 := fun d h9 => by
            rcases (hbf d).1 with e9 | e9
            · exact e9
            · have := hds d ((hbf d).2.mp e9)
              omega
          refine ww_iconst C dX0_apart_44 ?_
          refine ww_istore_n C dX0_apart_45 (lv' := [(2, .int (iZ 1)), (0, .ref (wa w 12)), (1, .ref (wa w 1))]) (by rw [hkL]; decide) rfl ?_
          have L_46 : ∀ (fuel : Nat) (n : Nat) (hn : 1 ≤ n ∧ (n : Int) ≤ M 12 4) (hno : ∀ u : Nat, 1 ≤ u → u < n → ∃ j : Nat, 1 ≤ j ∧ dsP (M 2) K (M 13) 512 (j * u)), 512 - n < fuel → WW w k 46 [(0, .ref (wa w 12)), (2, .int (iZ ((n : Nat) : Int)))] [] (ups M 18 bt) := by
            intro fuel
            induction fuel with
            | zero => intro n hn hno hf_46; exact absurd hf_46 (Nat.not_lt_zero _)
            | succ fuel ih_46 =>
              intro n hn hno hf_46
              refine ww_iload_n C dX0_apart_46 1 rfl ?_
              refine ww_aload_n C dX0_apart_47 0 rfl ?_
              refine gt_X0_45 C dX0_apart_48 ?_
              refine ww_top (b := M 12 4) rfl ?_
              refine ww_icmp_ge C 68 dX0_apart_51 (by decide) (by omega) (by omega) (fun c_51 => ?_) (fun c_51 => ?_)
              · have hfree : ∀ j : Nat, 1 ≤ j → ¬ dsP (M 2) K (M 13) 512 (j * n) := fun j h7 h8 => by
                  have e9 := hds _ h8
                  have e8 : n ≤ j * n := Nat.le_mul_of_pos_left n h7
                  omega
                refine ww_iload_n C dX0_apart_68 1 rfl ?_
                exact RT _ _ _ _ dX0_apart_69 (Or.inr ⟨by omega, ⟨n, rfl, hn.1, hfree, hno⟩, bt, fun d => (hbf d).1, hb9, rfl⟩)
              · refine ww_aload_n C dX0_apart_54 0 rfl ?_
                refine ww_iload_n C dX0_apart_55 1 rfl ?_
                refine ww_callV C (As := [.int (iZ ((n : Nat) : Int))]) 12 (by decide) (ct_X0_isFree w (ups M 18 bt) n (show 1 ≤ n ∧ n < 512 from by omega) (show 0 ≤ (M 12) 4 ∧ (M 12) 4 ≤ 512 from by omega) (show ∀ d : Nat, bt d = 0 ∨ bt d = 1 from fun d => (hbf d).1)) mf_X0_isFree ml_X0_97 rfl rfl (by decide) rfl rfl (Nat.le_of_ble_eq_true rfl) dX0_apart_56 (fun z_56 M_56 hp_56 => ?_)
                obtain ⟨hz_56, hfr_56, hm_56⟩ := hp_56
                refine ww_mem (M1 := ups M 18 bt) (hm_56) ?_
                refine ww_if_ne C 68 dX0_apart_59 (by decide) (by omega) (fun c_59 => ?_) (fun c_59 => ?_)
                · have hfree : ∀ j : Nat, 1 ≤ j → ¬ dsP (M 2) K (M 13) 512 (j * n) := fun j h7 h8 => by
                    have e9 := hfr_56.mp (by omega) j h7 (hds _ h8)
                    have e8 := (hbf (j * n)).2.mpr h8
                    have e7 : bt (j * n) = 0 := e9
                    omega
                  refine ww_iload_n C dX0_apart_68 1 rfl ?_
                  exact RT _ _ _ _ dX0_apart_69 (Or.inr ⟨by omega, ⟨n, rfl, hn.1, hfree, hno⟩, bt, fun d => (hbf d).1, hb9, rfl⟩)
                · have hsome : ∃ j : Nat, 1 ≤ j ∧ dsP (M 2) K (M 13) 512 (j * n) := by
                    refine Classical.byContradiction (fun h9 => ?_)
                    have e8 : z_56 = 1 := hfr_56.mpr (fun u h7 h8 => by
                      rcases (hbf (u * n)).1 with e9 | e9
                      · exact e9
                      · exact absurd ⟨u, h7, (hbf (u * n)).2.mp e9⟩ h9)
                    omega
                  refine ww_iinc2 C dX0_apart_62 1 rfl (b := ((n + 1 : Nat) : Int)) (by omega) (lv' := [(2, .int (iZ ((n + 1 : Nat) : Int))), (0, .ref (wa w 12))]) (by rw [hkL]; decide) rfl ?_
                  refine ww_goto C 46 dX0_apart_65 (by decide) ?_
                  refine ww_sub [1, 0] rfl ?_
                  exact ih_46 (n + 1) (by omega) (fun u h8 h9 => by rcases Nat.lt_succ_iff_lt_or_eq.mp h9 with h9 | rfl; exact hno u h8 h9; exact hsome) (by omega)
          refine ww_sub [1, 0] rfl ?_
          exact L_46 _ 1 (by omega) (fun u h8 h9 => by omega) (Nat.lt_succ_self _)
        · refine ww_aload_n C dX0_apart_28 0 rfl ?_
          refine ww_aload_n C dX0_apart_29 1 rfl ?_
          refine gt_X0_56 C dX0_apart_30 ?_
          refine ww_iload_n C dX0_apart_33 2 rfl ?_
          refine al_3 C t (z := (((M 3 t).toNat : Nat) : Int)) rfl (by omega) ((hcd.1 t (by omega)).1) dX0_apart_34 ?_
          refine ww_callVV C (As := [.int (iZ (((M 3 t).toNat : Nat) : Int))]) 12 (by decide) (ct_X0_markBetween w (ups M 18 bt) K ((M 3 t).toNat) (show ∀ u : Nat, u ≤ ((M 3 t).toNat) → isP ((M 2)) u → lastR ((M 2)) K (K u) u ((M 17) u) from fun u _ h9 => hah u h9) (show ∀ u : Nat, isP ((M 2)) u → R32 ((M 13) u) ∧ 0 ≤ (M 13) u ∧ (M 13) u < 512 from fun u h9 => by have e9 := hbe u h9; exact ⟨⟨by omega, by omega⟩, e9.1, by omega⟩) (show SzOk ((M 2)) from hs) (show isP ((M 2)) ((M 3 t).toNat) from (hc1 (by omega)).2.2) (show ∀ d : Nat, bt d = 0 ∨ bt d = 1 from fun d => (hbt d).1)) mf_X0_markBetween ml_X0_94 rfl rfl (by decide) rfl rfl (Nat.le_of_ble_eq_true rfl) dX0_apart_35 (fun M_35 hp_35 => ?_)
          obtain ⟨bt_35, hbt_35, hm_35⟩ := hp_35
          refine ww_mem (M1 := ups M 18 bt_35) (by rw [hm_35]; exact ups_ups) ?_
          refine ww_iinc2 C dX0_apart_38 2 rfl (b := ((t + 1 : Nat) : Int)) (by omega) (lv' := [(2, .int (iZ ((t + 1 : Nat) : Int))), (0, .ref (wa w 12)), (1, .ref (wa w 1))]) (by rw [hkL]; decide) rfl ?_
          refine ww_goto C 20 dX0_apart_41 (by decide) ?_
          refine ww_sub [1, 2, 0] rfl ?_
          exact ih_20 (t + 1) bt_35 (by omega) (fun d => ⟨(hbt_35 d).1, (hbt_35 d).2.trans ((or_congr (hbt d).2 Iff.rfl).trans (dsP_bd hcd (by omega)).symm)⟩) (by omega)
    refine ww_sub [1, 2, 0] rfl ?_
    exact L_20 _ 0 (fil 512 0 (M 18)) (by omega) (fun d => by have e9 : fil 512 0 (M 18) d = 0 := by { by_cases h9 : d < 512; exact fil_lt h9; (unfold fil; rw [if_neg h9]; exact hb5 d (by omega)) }; exact ⟨Or.inl e9, ⟨fun h9 => by omega, fun h9 => absurd h9 (dsP_0 hcd)⟩⟩) (Nat.lt_succ_self _)
  · refine ww_iconst C dX0_apart_8 ?_
    exact RT _ _ _ _ dX0_apart_9 (Or.inl ⟨c_5, rfl, rfl⟩)
set_option maxRecDepth 100000 in
set_option maxHeartbeats 4000000 in
theorem ct_X0_place (w : WLD) (M : Mem) (np : Nat) (hf : 1 ≤ M 10 1 ∧ M 10 1 ≤ 8) (hnu : NuOk (M 11)) (hs : SzOk (M 2)) (hnp : M 1 2 = (np : Int)) (hcd : CdOk (M 2) (M 3) np) (hl0 : ∀ j : Nat, M 16 j = 0) : CtV w yX0_place cX0_place 5 rm_X0_place [.ref (wa w 12), .ref (wa w 1), .ref (wa w 10)] M (fun M1 => ∃ (be ce se ah ls : Nat → Int) (bts cls la ea : Int), PlOk (M 11) (M 2) (M 10 1) be ce se ah bts cls la ea ∧ (∀ j : Nat, ls j = 0) ∧ M1 = ups (ups (ups (ups (ups (ups M 13 be) 14 ce) 15 se) 12 (up1 (up1 (up1 (up1 (up1 (M 12) 4 bts) 5 cls) 6 la) 7 ea) 3 1)) 17 ah) 16 ls) := by
  refine CtV.of (by decide) (Nat.le_of_ble_eq_true rfl) rfl rfl ?_
  intro k hkL C RT
  have hnp9 := hcd.2.2.2.2
  show WW w k 0 [(0, .ref (wa w 12)), (1, .ref (wa w 1)), (2, .ref (wa w 10))] [] M
  refine ww_aload_n C dX0_place_0 0 rfl ?_
  refine ww_aload_n C dX0_place_1 1 rfl ?_
  refine ww_aload_n C dX0_place_2 2 rfl ?_
  refine ww_callVV C (As := [.ref (wa w 1), .ref (wa w 10)]) 12 (by decide) (ct_X0_layPoints w M np (hf) (hnu) (hs) (hnp) (hcd)) mf_X0_layPoints ml_X0_41 rfl rfl (by decide) rfl rfl (Nat.le_of_ble_eq_true rfl) dX0_place_3 (fun M_3 hp_3 => ?_)
  obtain ⟨be_3, ce_3, se_3, hlay_3, hm_3⟩ := hp_3
  refine ww_mem (M1 := ups (ups (ups M 13 be_3) 14 ce_3) 15 se_3) (hm_3) ?_
  refine ww_aload_n C dX0_place_6 0 rfl ?_
  refine ww_iconst C dX0_place_7 ?_
  refine pt_X0_45 C dX0_place_8 ?_
  refine ww_mem (M1 := ups (ups (ups (ups M 13 be_3) 14 ce_3) 15 se_3) 12 (up1 (M 12) 4 0)) rfl ?_
  refine ww_aload_n C dX0_place_11 0 rfl ?_
  refine ww_iconst C dX0_place_12 ?_
  refine pt_X0_48 C dX0_place_13 ?_
  refine ww_mem (M1 := ups (ups (ups (ups M 13 be_3) 14 ce_3) 15 se_3) 12 (up1 (up1 (M 12) 4 0) 5 0)) (ups_ups) ?_
  refine ww_aload_n C dX0_place_16 0 rfl ?_
  refine ww_iconst C dX0_place_17 ?_
  refine pt_X0_25 C dX0_place_18 ?_
  refine ww_mem (M1 := ups (ups (ups (ups M 13 be_3) 14 ce_3) 15 se_3) 12 (up1 (up1 (up1 (M 12) 4 0) 5 0) 6 (-1))) (ups_ups) ?_
  refine ww_aload_n C dX0_place_21 0 rfl ?_
  refine ww_iconst C dX0_place_22 ?_
  refine pt_X0_29 C dX0_place_23 ?_
  refine ww_mem (M1 := ups (ups (ups (ups M 13 be_3) 14 ce_3) 15 se_3) 12 (up1 (up1 (up1 (up1 (M 12) 4 0) 5 0) 6 (-1)) 7 (-1))) (ups_ups) ?_
  refine ww_iconst C dX0_place_26 ?_
  refine ww_istore_n C dX0_place_27 (lv' := [(3, .int (iZ 0)), (0, .ref (wa w 12)), (1, .ref (wa w 1)), (2, .ref (wa w 10))]) (by rw [hkL]; decide) rfl ?_
  have L_28 : ∀ (fuel : Nat) (t : Nat) (bts cls la ea : Int) (ah ls : Nat → Int) (ht : t ≤ np) (hbea : beaR (M 2) (beatZ (M 11) (M 2) (M 10 1)) (bdN (M 3) np t) bts) (hcls : cls = difK (M 2) (keyZ (M 11) (M 2) (M 10 1)) (bdN (M 3) np t)) (hmt : metR (M 2) (keyZ (M 11) (M 2) (M 10 1)) (beatZ (M 11) (M 2) (M 10 1)) (bdN (M 3) np t) la ea) (hah : ∀ u : Nat, u < bdN (M 3) np t → isP (M 2) u → lastR (M 2) (keyZ (M 11) (M 2) (M 10 1)) (keyZ (M 11) (M 2) (M 10 1) u) u (ah u)) (hls : ∀ j : Nat, j < 4096 → lastR (M 2) (keyZ (M 11) (M 2) (M 10 1)) j (bdN (M 3) np t) (ls j)) (hl4 : ∀ j : Nat, 4096 ≤ j → ls j = 0), np - t < fuel → WW w k 28 [(0, .ref (wa w 12)), (1, .ref (wa w 1)), (3, .int (iZ ((t : Nat) : Int)))] [] (ups (ups (ups (ups (ups (ups M 13 be_3) 14 ce_3) 15 se_3) 12 (up1 (up1 (up1 (up1 (M 12) 4 bts) 5 cls) 6 la) 7 ea)) 17 ah) 16 ls) := by
    intro fuel
    induction fuel with
    | zero => intro t bts cls la ea ah ls ht hbea hcls hmt hah hls hl4 hf_28; exact absurd hf_28 (Nat.not_lt_zero _)
    | succ fuel ih_28 =>
      intro t bts cls la ea ah ls ht hbea hcls hmt hah hls hl4 hf_28
      have hc1 := hcd.1 t
      have hb5 := bd_512 (t := t) hcd
      have hbts : R32 bts := by
        rcases hbea.2 with ⟨e9, -⟩ | ⟨u, e9, f9, g9⟩
        · omega
        · have := beatZ_b hnu hs hf.1 hf.2 f9
          omega
      have hla : R32 la := by
        rcases hmt with ⟨e9, -⟩ | ⟨u, v, e9, f9, g9, -⟩ <;> omega
      refine ww_iload_n C dX0_place_28 2 rfl ?_
      refine ww_aload_n C dX0_place_29 1 rfl ?_
      refine gt_X0_51 C dX0_place_30 ?_
      refine ww_top (b := ((np : Nat) : Int)) (hnp) ?_
      refine ww_icmp_ge C 112 dX0_place_33 (by decide) (by omega) (by omega) (fun c_33 => ?_) (fun c_33 => ?_)
      · have hahf := hah
        have hbeaf := hbea
        have hclsf := hcls
        have hmtf := hmt
        rw [show t = np by omega, bdN_out (Nat.le_refl np)] at hahf hbeaf hclsf hmtf
        refine ww_iconst C dX0_place_112 ?_
        refine ww_istore_n C dX0_place_113 (lv' := [(3, .int (iZ 0)), (0, .ref (wa w 12)), (1, .ref (wa w 1))]) (by rw [hkL]; decide) rfl ?_
        have L_114 : ∀ (fuel : Nat) (t : Nat) (ls : Nat → Int) (ht : t ≤ np) (hlz : ∀ j : Nat, ls j = 0 ∨ ∃ u : Nat, t ≤ u ∧ u < np ∧ keyZ (M 11) (M 2) (M 10 1) (M 3 u).toNat = (j : Int)), np - t < fuel → WW w k 114 [(0, .ref (wa w 12)), (1, .ref (wa w 1)), (3, .int (iZ ((t : Nat) : Int)))] [] (ups (ups (ups (ups (ups (ups M 13 be_3) 14 ce_3) 15 se_3) 12 (up1 (up1 (up1 (up1 (M 12) 4 bts) 5 cls) 6 la) 7 ea)) 17 ah) 16 ls) := by
          intro fuel
          induction fuel with
          | zero => intro t ls ht hlz hf_114; exact absurd hf_114 (Nat.not_lt_zero _)
          | succ fuel ih_114 =>
            intro t ls ht hlz hf_114
            have hc1 := hcd.1 t
            refine ww_iload_n C dX0_place_114 2 rfl ?_
            refine ww_aload_n C dX0_place_115 1 rfl ?_
            refine gt_X0_51 C dX0_place_116 ?_
            refine ww_top (b := ((np : Nat) : Int)) (hnp) ?_
            refine ww_icmp_ge C 144 dX0_place_119 (by decide) (by omega) (by omega) (fun c_119 => ?_) (fun c_119 => ?_)
            · refine ww_aload_n C dX0_place_144 0 rfl ?_
              refine ww_iconst C dX0_place_145 ?_
              refine pt_X0_21 C (by decide) dX0_place_146 ?_
              refine ww_mem (M1 := ups (ups (ups (ups (ups (ups M 13 be_3) 14 ce_3) 15 se_3) 12 (up1 (up1 (up1 (up1 (up1 (M 12) 4 bts) 5 cls) 6 la) 7 ea) 3 1)) 17 ah) 16 ls) (((ups_comm (by decide)).trans (congrArg (fun X9 => ups X9 16 ls) ((ups_comm (by decide)).trans (congrArg (fun X9 => ups X9 17 ah) ups_ups))))) ?_
              exact RT _ _ _ dX0_place_149 (⟨be_3, ce_3, se_3, ah, ls, bts, cls, la, ea, ⟨hlay_3, fun u h9 => hahf u (isP_lt hs h9) h9, hbeaf, hclsf, hmtf⟩, fun j => by rcases hlz j with e9 | ⟨u, a9, b9, c9⟩; exact e9; omega, rfl⟩)
            · refine ww_aload_n C dX0_place_122 0 rfl ?_
              refine gt_X0_32 C dX0_place_123 ?_
              refine ww_aload_n C dX0_place_126 0 rfl ?_
              refine ww_aload_n C dX0_place_127 1 rfl ?_
              refine gt_X0_56 C dX0_place_128 ?_
              refine ww_iload_n C dX0_place_131 2 rfl ?_
              refine al_3 C t (z := (((M 3 t).toNat : Nat) : Int)) rfl (by omega) ((hcd.1 t (by omega)).1) dX0_place_132 ?_
              refine ww_callV C (As := [.int (iZ (((M 3 t).toNat : Nat) : Int))]) 12 (by decide) (ct_X0_cellKey w (ups (ups (ups (ups (ups (ups M 13 be_3) 14 ce_3) 15 se_3) 12 (up1 (up1 (up1 (up1 (M 12) 4 bts) 5 cls) 6 la) 7 ea)) 17 ah) 16 ls) ((M 3 t).toNat) (show ((M 3 t).toNat) < 512 from (hc1 (by omega)).2.1)) mf_X0_cellKey ml_X0_73 rfl rfl (by decide) rfl rfl (Nat.le_of_ble_eq_true rfl) dX0_place_133 (fun z_133 M_133 hp_133 => ?_)
              rw [hp_133.1, hp_133.2]
              refine ww_top (b := 64 * ce_3 ((M 3 t).toNat) + se_3 ((M 3 t).toNat)) rfl ?_
              refine ww_top (b := (((keyZ (M 11) (M 2) (M 10 1) (M 3 t).toNat).toNat : Nat) : Int)) (show 64 * ce_3 (M 3 t).toNat + se_3 (M 3 t).toNat = _ from by rw [(hlay_3 _ (hc1 (by omega)).2.2).2.1, (hlay_3 _ (hc1 (by omega)).2.2).2.2]; have hkb := keyZ_b hnu hs hf.1 (hc1 (by omega)).2.2; show keyZ (M 11) (M 2) (M 10 1) (M 3 t).toNat = _; omega) ?_
              refine ww_iconst C dX0_place_136 ?_
              refine as_16 C ((keyZ (M 11) (M 2) (M 10 1) (M 3 t).toNat).toNat) rfl (by have hkb := keyZ_b hnu hs hf.1 (hc1 (by omega)).2.2; omega) dX0_place_137 ?_
              refine ww_mem (M1 := ups (ups (ups (ups (ups (ups M 13 be_3) 14 ce_3) 15 se_3) 12 (up1 (up1 (up1 (up1 (M 12) 4 bts) 5 cls) 6 la) 7 ea)) 17 ah) 16 (up1 ls ((keyZ (M 11) (M 2) (M 10 1) (M 3 t).toNat).toNat) 0)) (ups_ups) ?_
              refine ww_iinc2 C dX0_place_138 2 rfl (b := ((t + 1 : Nat) : Int)) (by omega) (lv' := [(3, .int (iZ ((t + 1 : Nat) : Int))), (0, .ref (wa w 12)), (1, .ref (wa w 1))]) (by rw [hkL]; decide) rfl ?_
              refine ww_goto C 114 dX0_place_141 (by decide) ?_
              refine ww_sub [1, 2, 0] rfl ?_
              exact ih_114 (t + 1) (up1 ls ((keyZ (M 11) (M 2) (M 10 1) (M 3 t).toNat).toNat) 0) (by omega) (fun j => by by_cases h9 : j = (keyZ (M 11) (M 2) (M 10 1) (M 3 t).toNat).toNat; (rw [h9, up1_s]; exact Or.inl rfl); (rw [up1_n h9]; rcases hlz j with e9 | ⟨u, a9, b9, c9⟩; exact Or.inl e9; (rcases Nat.lt_or_ge t u with d9 | d9; exact Or.inr ⟨u, d9, b9, c9⟩; (exfalso; have e8 : u = t := (by omega); rw [e8] at c9; omega)))) (by omega)
        refine ww_sub [1, 2, 0] rfl ?_
        exact L_114 _ 0 ls (by omega) (fun j => by rcases Nat.lt_or_ge j 4096 with h9 | h9; (rcases hls j h9 with ⟨e9, -⟩ | ⟨u, e9, -, f9, g9, -⟩; exact Or.inl e9; (obtain ⟨v, a9, b9⟩ := hcd.2.2.1 u (isP_lt hs f9) f9; exact Or.inr ⟨v, Nat.zero_le _, a9, by rw [b9]; exact g9⟩)); exact Or.inl (hl4 j h9)) (Nat.lt_succ_self _)
      · refine ww_aload_n C dX0_place_36 1 rfl ?_
        refine gt_X0_56 C dX0_place_37 ?_
        refine ww_iload_n C dX0_place_40 2 rfl ?_
        refine al_3 C t (z := (((M 3 t).toNat : Nat) : Int)) rfl (by omega) ((hcd.1 t (by omega)).1) dX0_place_41 ?_
        refine ww_istore C dX0_place_42 (lv' := [(4, .int (iZ (((M 3 t).toNat : Nat) : Int))), (0, .ref (wa w 12)), (1, .ref (wa w 1)), (3, .int (iZ ((t : Nat) : Int)))]) (by rw [hkL]; decide) rfl ?_
        have hcp := hc1 (by omega)
        have hbc := beatZ_b hnu hs hf.1 hf.2 hcp.2.2
        have hkb := keyZ_b hnu hs hf.1 hcp.2.2
        have hkk : keyZ (M 11) (M 2) (M 10 1) (M 3 t).toNat = (((keyZ (M 11) (M 2) (M 10 1) (M 3 t).toNat).toNat : Nat) : Int) := by omega
        have hlk := hls (keyZ (M 11) (M 2) (M 10 1) (M 3 t).toNat).toNat (by omega)
        have hlkb := lastR_b hlk
        refine ww_aload_n C dX0_place_44 1 rfl ?_
        refine ww_aload_n C dX0_place_45 1 rfl ?_
        refine gt_X0_45 C dX0_place_46 ?_
        refine ww_top (b := bts) rfl ?_
        refine ww_aload_n C dX0_place_49 1 rfl ?_
        refine gt_X0_9 C dX0_place_50 ?_
        refine ww_iload C dX0_place_53 0 rfl ?_
        refine al_13 C ((M 3 t).toNat) (z := beatZ (M 11) (M 2) (M 10 1) (M 3 t).toNat) rfl (hcp.2.1) ((hlay_3 _ hcp.2.2).1) dX0_place_55 ?_
        refine ww_iconst C dX0_place_56 ?_
        refine ww_iadd C dX0_place_57 ?_
        refine ww_max C ml_X0_59 (hbts) (by omega) (by decide) (Nat.le_of_ble_eq_true rfl) dX0_place_58 ?_
        refine pt_X0_45 C dX0_place_61 ?_
        refine ww_mem (M1 := ups (ups (ups (ups (ups (ups M 13 be_3) 14 ce_3) 15 se_3) 12 (up1 (up1 (up1 (up1 (M 12) 4 (max bts ((beatZ (M 11) (M 2) (M 10 1) (M 3 t).toNat) + 1))) 5 cls) 6 la) 7 ea)) 17 ah) 16 ls) (((ups_comm (by decide)).trans (congrArg (fun X9 => ups X9 16 ls) ((ups_comm (by decide)).trans (congrArg (fun X9 => ups X9 17 ah) (ups_ups.trans (congrArg (fun f9 => ups _ 12 f9) ((up1_comm (by decide)).trans (congrArg (fun f9 => up1 f9 7 ea) ((up1_comm (by decide)).trans (congrArg (fun f9 => up1 f9 6 la) ((up1_comm (by decide)).trans (congrArg (fun f9 => up1 f9 5 cls) up1_up1))))))))))))) ?_
        refine ww_aload_n C dX0_place_64 1 rfl ?_
        refine ww_iload C dX0_place_65 0 rfl ?_
        refine ww_callVV C (As := [.int (iZ (((M 3 t).toNat : Nat) : Int))]) 12 (by decide) (ct_X0_link w (ups (ups (ups (ups (ups (ups M 13 be_3) 14 ce_3) 15 se_3) 12 (up1 (up1 (up1 (up1 (M 12) 4 (max bts ((beatZ (M 11) (M 2) (M 10 1) (M 3 t).toNat) + 1))) 5 cls) 6 la) 7 ea)) 17 ah) 16 ls) ((M 3 t).toNat) ((keyZ (M 11) (M 2) (M 10 1) (M 3 t).toNat).toNat) (show ((M 3 t).toNat) < 512 from hcp.2.1) (show 64 * ce_3 ((M 3 t).toNat) + se_3 ((M 3 t).toNat) = (((keyZ (M 11) (M 2) (M 10 1) (M 3 t).toNat).toNat) : Int) from show 64 * ce_3 (M 3 t).toNat + se_3 (M 3 t).toNat = _ from by rw [(hlay_3 _ hcp.2.2).2.1, (hlay_3 _ hcp.2.2).2.2]; exact hkk) (show ((keyZ (M 11) (M 2) (M 10 1) (M 3 t).toNat).toNat) < 4096 from by omega) (show R32 (ls ((keyZ (M 11) (M 2) (M 10 1) (M 3 t).toNat).toNat)) from by show R32 (ls (keyZ (M 11) (M 2) (M 10 1) (M 3 t).toNat).toNat); omega)) mf_X0_link ml_X0_65 rfl rfl (by decide) rfl rfl (Nat.le_of_ble_eq_true rfl) dX0_place_67 (fun M_67 hp_67 => ?_)
        rw [hp_67]
        refine ww_mem (M1 := ups (ups (ups (ups (ups (ups (ups (ups M 13 be_3) 14 ce_3) 15 se_3) 12 (up1 (up1 (up1 (up1 (up1 (M 12) 4 (max bts ((beatZ (M 11) (M 2) (M 10 1) (M 3 t).toNat) + 1))) 5 cls) 6 la) 7 ea) 5 ((up1 (up1 (up1 (up1 (M 12) 4 (max bts ((beatZ (M 11) (M 2) (M 10 1) (M 3 t).toNat) + 1))) 5 cls) 6 la) 7 ea) 5 + b2i (ls ((keyZ (M 11) (M 2) (M 10 1) (M 3 t).toNat).toNat) = 0)))) 17 ah) 16 ls) 17 (up1 ah ((M 3 t).toNat) (ls ((keyZ (M 11) (M 2) (M 10 1) (M 3 t).toNat).toNat)))) 16 (up1 ls ((keyZ (M 11) (M 2) (M 10 1) (M 3 t).toNat).toNat) ((((M 3 t).toNat) : Int) + 1))) (congrArg (fun X9 => ups X9 16 (up1 ls ((keyZ (M 11) (M 2) (M 10 1) (M 3 t).toNat).toNat) ((((M 3 t).toNat) : Int) + 1))) (congrArg (fun X9 => ups X9 17 (up1 ah ((M 3 t).toNat) (ls ((keyZ (M 11) (M 2) (M 10 1) (M 3 t).toNat).toNat)))) ((ups_comm (by decide)).trans (congrArg (fun X9 => ups X9 16 ls) ((ups_comm (by decide)).trans (congrArg (fun X9 => ups X9 17 ah) ups_ups)))))) ?_
        refine ww_mem (M1 := ups (ups (ups (ups (ups (ups (ups M 13 be_3) 14 ce_3) 15 se_3) 12 (up1 (up1 (up1 (up1 (up1 (M 12) 4 (max bts ((beatZ (M 11) (M 2) (M 10 1) (M 3 t).toNat) + 1))) 5 cls) 6 la) 7 ea) 5 ((up1 (up1 (up1 (up1 (M 12) 4 (max bts ((beatZ (M 11) (M 2) (M 10 1) (M 3 t).toNat) + 1))) 5 cls) 6 la) 7 ea) 5 + b2i (ls ((keyZ (M 11) (M 2) (M 10 1) (M 3 t).toNat).toNat) = 0)))) 17 (up1 ah ((M 3 t).toNat) (ls ((keyZ (M 11) (M 2) (M 10 1) (M 3 t).toNat).toNat)))) 16 ls) 16 (up1 ls ((keyZ (M 11) (M 2) (M 10 1) (M 3 t).toNat).toNat) ((((M 3 t).toNat) : Int) + 1))) (congrArg (fun X9 => ups X9 16 (up1 ls ((keyZ (M 11) (M 2) (M 10 1) (M 3 t).toNat).toNat) ((((M 3 t).toNat) : Int) + 1))) ((ups_comm (by decide)).trans (congrArg (fun X9 => ups X9 16 ls) ups_ups))) ?_
        refine ww_mem (M1 := ups (ups (ups (ups (ups (ups M 13 be_3) 14 ce_3) 15 se_3) 12 (up1 (up1 (up1 (up1 (up1 (M 12) 4 (max bts ((beatZ (M 11) (M 2) (M 10 1) (M 3 t).toNat) + 1))) 5 cls) 6 la) 7 ea) 5 ((up1 (up1 (up1 (up1 (M 12) 4 (max bts ((beatZ (M 11) (M 2) (M 10 1) (M 3 t).toNat) + 1))) 5 cls) 6 la) 7 ea) 5 + b2i (ls ((keyZ (M 11) (M 2) (M 10 1) (M 3 t).toNat).toNat) = 0)))) 17 (up1 ah ((M 3 t).toNat) (ls ((keyZ (M 11) (M 2) (M 10 1) (M 3 t).toNat).toNat)))) 16 (up1 ls ((keyZ (M 11) (M 2) (M 10 1) (M 3 t).toNat).toNat) ((((M 3 t).toNat) : Int) + 1))) ups_ups ?_
        refine ww_aload_n C dX0_place_70 1 rfl ?_
        refine gt_X0_25 C dX0_place_71 ?_
        refine ww_top (b := la) rfl ?_
        refine ww_iconst C dX0_place_74 ?_
        refine ww_icmp_ne C 106 dX0_place_75 (by decide) (hla) (by omega) (fun c_75 => ?_) (fun c_75 => ?_)
        · refine ww_iinc2 C dX0_place_106 3 rfl (b := ((t + 1 : Nat) : Int)) (by omega) (lv' := [(3, .int (iZ ((t + 1 : Nat) : Int))), (4, .int (iZ (((M 3 t).toNat : Nat) : Int))), (0, .ref (wa w 12)), (1, .ref (wa w 1))]) (by rw [hkL]; decide) rfl ?_
          refine ww_goto C 28 dX0_place_109 (by decide) ?_
          refine ww_sub [2, 3, 0] rfl ?_
          exact ih_28 (t + 1) (max bts ((beatZ (M 11) (M 2) (M 10 1) (M 3 t).toNat) + 1)) ((up1 (up1 (up1 (up1 (M 12) 4 (max bts ((beatZ (M 11) (M 2) (M 10 1) (M 3 t).toNat) + 1))) 5 cls) 6 la) 7 ea) 5 + b2i (ls ((keyZ (M 11) (M 2) (M 10 1) (M 3 t).toNat).toNat) = 0)) la ea (up1 ah ((M 3 t).toNat) (ls ((keyZ (M 11) (M 2) (M 10 1) (M 3 t).toNat).toNat))) (up1 ls ((keyZ (M 11) (M 2) (M 10 1) (M 3 t).toNat).toNat) ((((M 3 t).toNat) : Int) + 1)) (by omega) (pl_bea hcd (by omega) hbc.1 hbea) (by rw [hcls]; exact (pl_dif hcd (by omega) hkk hlk).symm) (met_keep hcd (by omega) c_75 hmt) (pl_ah hcd (by omega) hkk hlk hah) (pl_lst hcd (by omega) hkk hls) (fun j h9 => by rw [up1_n (by omega)]; exact hl4 j h9) (by omega)
        · refine ww_aload_n C dX0_place_78 1 rfl ?_
          refine ww_aload_n C dX0_place_79 1 rfl ?_
          refine ww_iload C dX0_place_80 0 rfl ?_
          refine ww_callV C (As := [.int (iZ (((M 3 t).toNat : Nat) : Int))]) 12 (by decide) (ct_X0_metBy w (ups (ups (ups (ups (ups (ups M 13 be_3) 14 ce_3) 15 se_3) 12 (up1 (up1 (up1 (up1 (up1 (M 12) 4 (max bts ((beatZ (M 11) (M 2) (M 10 1) (M 3 t).toNat) + 1))) 5 cls) 6 la) 7 ea) 5 ((up1 (up1 (up1 (up1 (M 12) 4 (max bts ((beatZ (M 11) (M 2) (M 10 1) (M 3 t).toNat) + 1))) 5 cls) 6 la) 7 ea) 5 + b2i (ls ((keyZ (M 11) (M 2) (M 10 1) (M 3 t).toNat).toNat) = 0)))) 17 (up1 ah ((M 3 t).toNat) (ls ((keyZ (M 11) (M 2) (M 10 1) (M 3 t).toNat).toNat)))) 16 (up1 ls ((keyZ (M 11) (M 2) (M 10 1) (M 3 t).toNat).toNat) ((((M 3 t).toNat) : Int) + 1))) (keyZ (M 11) (M 2) (M 10 1)) ((M 3 t).toNat) (show ∀ u : Nat, u ≤ ((M 3 t).toNat) → isP ((M 2)) u → lastR ((M 2)) (keyZ (M 11) (M 2) (M 10 1)) ((keyZ (M 11) (M 2) (M 10 1)) u) u ((up1 ah ((M 3 t).toNat) (ls ((keyZ (M 11) (M 2) (M 10 1) (M 3 t).toNat).toNat))) u) from fun u h9 h8 => pl_ah hcd (by omega) hkk hlk hah u ((bd_lt hcd (by omega) h8).mpr (by rw [bdN_in (by omega)]; omega)) h8) (show ∀ u : Nat, isP ((M 2)) u → R32 (be_3 u) ∧ 0 ≤ be_3 u ∧ be_3 u < 512 from fun u h9 => by have e9 := beatZ_b hnu hs hf.1 hf.2 h9; have e8 := (hlay_3 u h9).1; show R32 (be_3 u) ∧ 0 ≤ be_3 u ∧ be_3 u < 512; omega) (show SzOk ((M 2)) from hs) (show isP ((M 2)) ((M 3 t).toNat) from hcp.2.2)) mf_X0_metBy ml_X0_69 rfl rfl (by decide) rfl rfl (Nat.le_of_ble_eq_true rfl) dX0_place_82 (fun z_82 M_82 hp_82 => ?_)
          obtain ⟨hmet_82, hm_82⟩ := hp_82
          refine ww_mem (M1 := ups (ups (ups (ups (ups (ups M 13 be_3) 14 ce_3) 15 se_3) 12 (up1 (up1 (up1 (up1 (up1 (M 12) 4 (max bts ((beatZ (M 11) (M 2) (M 10 1) (M 3 t).toNat) + 1))) 5 cls) 6 la) 7 ea) 5 ((up1 (up1 (up1 (up1 (M 12) 4 (max bts ((beatZ (M 11) (M 2) (M 10 1) (M 3 t).toNat) + 1))) 5 cls) 6 la) 7 ea) 5 + b2i (ls ((keyZ (M 11) (M 2) (M 10 1) (M 3 t).toNat).toNat) = 0)))) 17 (up1 ah ((M 3 t).toNat) (ls ((keyZ (M 11) (M 2) (M 10 1) (M 3 t).toNat).toNat)))) 16 (up1 ls ((keyZ (M 11) (M 2) (M 10 1) (M 3 t).toNat).toNat) ((((M 3 t).toNat) : Int) + 1))) (hm_82) ?_
          refine pt_X0_29 C dX0_place_85 ?_
          refine ww_mem (M1 := ups (ups (ups (ups (ups (ups M 13 be_3) 14 ce_3) 15 se_3) 12 (up1 (up1 (up1 (up1 (up1 (M 12) 4 (max bts ((beatZ (M 11) (M 2) (M 10 1) (M 3 t).toNat) + 1))) 5 cls) 6 la) 7 z_82) 5 ((up1 (up1 (up1 (up1 (M 12) 4 (max bts ((beatZ (M 11) (M 2) (M 10 1) (M 3 t).toNat) + 1))) 5 cls) 6 la) 7 ea) 5 + b2i (ls ((keyZ (M 11) (M 2) (M 10 1) (M 3 t).toNat).toNat) = 0)))) 17 (up1 ah ((M 3 t).toNat) (ls ((keyZ (M 11) (M 2) (M 10 1) (M 3 t).toNat).toNat)))) 16 (up1 ls ((keyZ (M 11) (M 2) (M 10 1) (M 3 t).toNat).toNat) ((((M 3 t).toNat) : Int) + 1))) (((ups_comm (by decide)).trans (congrArg (fun X9 => ups X9 16 (up1 ls ((keyZ (M 11) (M 2) (M 10 1) (M 3 t).toNat).toNat) ((((M 3 t).toNat) : Int) + 1))) ((ups_comm (by decide)).trans (congrArg (fun X9 => ups X9 17 (up1 ah ((M 3 t).toNat) (ls ((keyZ (M 11) (M 2) (M 10 1) (M 3 t).toNat).toNat)))) (ups_ups.trans (congrArg (fun f9 => ups _ 12 f9) ((up1_comm (by decide)).trans (congrArg (fun f9 => up1 f9 5 ((up1 (up1 (up1 (up1 (M 12) 4 (max bts ((beatZ (M 11) (M 2) (M 10 1) (M 3 t).toNat) + 1))) 5 cls) 6 la) 7 ea) 5 + b2i (ls ((keyZ (M 11) (M 2) (M 10 1) (M 3 t).toNat).toNat) = 0))) up1_up1))))))))) ?_
          refine ww_aload_n C dX0_place_88 1 rfl ?_
          refine ww_aload_n C dX0_place_89 1 rfl ?_
          refine gt_X0_29 C dX0_place_90 ?_
          refine ww_top (b := z_82) rfl ?_
          refine ww_iconst C dX0_place_93 ?_
          refine ww_icmp_ne C 101 dX0_place_94 (by decide) (by have e9 := mbR_b hmet_82; have e8 := hcp.2.1; omega) (by omega) (fun c_94 => ?_) (fun c_94 => ?_)
          · refine ww_iload C dX0_place_101 0 rfl ?_
            refine pt_X0_25 C dX0_place_103 ?_
            refine ww_mem (M1 := ups (ups (ups (ups (ups (ups M 13 be_3) 14 ce_3) 15 se_3) 12 (up1 (up1 (up1 (up1 (up1 (M 12) 4 (max bts ((beatZ (M 11) (M 2) (M 10 1) (M 3 t).toNat) + 1))) 5 cls) 6 (((M 3 t).toNat : Nat) : Int)) 7 z_82) 5 ((up1 (up1 (up1 (up1 (M 12) 4 (max bts ((beatZ (M 11) (M 2) (M 10 1) (M 3 t).toNat) + 1))) 5 cls) 6 la) 7 ea) 5 + b2i (ls ((keyZ (M 11) (M 2) (M 10 1) (M 3 t).toNat).toNat) = 0)))) 17 (up1 ah ((M 3 t).toNat) (ls ((keyZ (M 11) (M 2) (M 10 1) (M 3 t).toNat).toNat)))) 16 (up1 ls ((keyZ (M 11) (M 2) (M 10 1) (M 3 t).toNat).toNat) ((((M 3 t).toNat) : Int) + 1))) (((ups_comm (by decide)).trans (congrArg (fun X9 => ups X9 16 (up1 ls ((keyZ (M 11) (M 2) (M 10 1) (M 3 t).toNat).toNat) ((((M 3 t).toNat) : Int) + 1))) ((ups_comm (by decide)).trans (congrArg (fun X9 => ups X9 17 (up1 ah ((M 3 t).toNat) (ls ((keyZ (M 11) (M 2) (M 10 1) (M 3 t).toNat).toNat)))) (ups_ups.trans (congrArg (fun f9 => ups _ 12 f9) ((up1_comm (by decide)).trans (congrArg (fun f9 => up1 f9 5 ((up1 (up1 (up1 (up1 (M 12) 4 (max bts ((beatZ (M 11) (M 2) (M 10 1) (M 3 t).toNat) + 1))) 5 cls) 6 la) 7 ea) 5 + b2i (ls ((keyZ (M 11) (M 2) (M 10 1) (M 3 t).toNat).toNat) = 0))) ((up1_comm (by decide)).trans (congrArg (fun f9 => up1 f9 7 z_82) up1_up1))))))))))) ?_
            refine ww_iinc2 C dX0_place_106 3 rfl (b := ((t + 1 : Nat) : Int)) (by omega) (lv' := [(3, .int (iZ ((t + 1 : Nat) : Int))), (4, .int (iZ (((M 3 t).toNat : Nat) : Int))), (0, .ref (wa w 12)), (1, .ref (wa w 1))]) (by rw [hkL]; decide) rfl ?_
            refine ww_goto C 28 dX0_place_109 (by decide) ?_
            refine ww_sub [2, 3, 0] rfl ?_
            exact ih_28 (t + 1) (max bts ((beatZ (M 11) (M 2) (M 10 1) (M 3 t).toNat) + 1)) ((up1 (up1 (up1 (up1 (M 12) 4 (max bts ((beatZ (M 11) (M 2) (M 10 1) (M 3 t).toNat) + 1))) 5 cls) 6 la) 7 ea) 5 + b2i (ls ((keyZ (M 11) (M 2) (M 10 1) (M 3 t).toNat).toNat) = 0)) (((M 3 t).toNat : Nat) : Int) z_82 (up1 ah ((M 3 t).toNat) (ls ((keyZ (M 11) (M 2) (M 10 1) (M 3 t).toNat).toNat))) (up1 ls ((keyZ (M 11) (M 2) (M 10 1) (M 3 t).toNat).toNat) ((((M 3 t).toNat) : Int) + 1)) (by omega) (pl_bea hcd (by omega) hbc.1 hbea) (by rw [hcls]; exact (pl_dif hcd (by omega) hkk hlk).symm) (by rcases hmet_82 with ⟨e9, f9⟩ | ⟨u, e9, f9⟩; exact absurd e9 c_94; (rw [e9]; exact met_new hcd (by omega) c_75 hmt (mtP_c (fun p9 h8 => (hlay_3 p9 h8).1) f9))) (pl_ah hcd (by omega) hkk hlk hah) (pl_lst hcd (by omega) hkk hls) (fun j h9 => by rw [up1_n (by omega)]; exact hl4 j h9) (by omega)
          · refine ww_iconst C dX0_place_97 ?_
            refine ww_goto C 103 dX0_place_98 (by decide) ?_
            refine pt_X0_25 C dX0_place_103 ?_
            refine ww_mem (M1 := ups (ups (ups (ups (ups (ups M 13 be_3) 14 ce_3) 15 se_3) 12 (up1 (up1 (up1 (up1 (up1 (M 12) 4 (max bts ((beatZ (M 11) (M 2) (M 10 1) (M 3 t).toNat) + 1))) 5 cls) 6 (-1)) 7 z_82) 5 ((up1 (up1 (up1 (up1 (M 12) 4 (max bts ((beatZ (M 11) (M 2) (M 10 1) (M 3 t).toNat) + 1))) 5 cls) 6 la) 7 ea) 5 + b2i (ls ((keyZ (M 11) (M 2) (M 10 1) (M 3 t).toNat).toNat) = 0)))) 17 (up1 ah ((M 3 t).toNat) (ls ((keyZ (M 11) (M 2) (M 10 1) (M 3 t).toNat).toNat)))) 16 (up1 ls ((keyZ (M 11) (M 2) (M 10 1) (M 3 t).toNat).toNat) ((((M 3 t).toNat) : Int) + 1))) (((ups_comm (by decide)).trans (congrArg (fun X9 => ups X9 16 (up1 ls ((keyZ (M 11) (M 2) (M 10 1) (M 3 t).toNat).toNat) ((((M 3 t).toNat) : Int) + 1))) ((ups_comm (by decide)).trans (congrArg (fun X9 => ups X9 17 (up1 ah ((M 3 t).toNat) (ls ((keyZ (M 11) (M 2) (M 10 1) (M 3 t).toNat).toNat)))) (ups_ups.trans (congrArg (fun f9 => ups _ 12 f9) ((up1_comm (by decide)).trans (congrArg (fun f9 => up1 f9 5 ((up1 (up1 (up1 (up1 (M 12) 4 (max bts ((beatZ (M 11) (M 2) (M 10 1) (M 3 t).toNat) + 1))) 5 cls) 6 la) 7 ea) 5 + b2i (ls ((keyZ (M 11) (M 2) (M 10 1) (M 3 t).toNat).toNat) = 0))) ((up1_comm (by decide)).trans (congrArg (fun f9 => up1 f9 7 z_82) up1_up1))))))))))) ?_
            refine ww_iinc2 C dX0_place_106 3 rfl (b := ((t + 1 : Nat) : Int)) (by omega) (lv' := [(3, .int (iZ ((t + 1 : Nat) : Int))), (4, .int (iZ (((M 3 t).toNat : Nat) : Int))), (0, .ref (wa w 12)), (1, .ref (wa w 1))]) (by rw [hkL]; decide) rfl ?_
            refine ww_goto C 28 dX0_place_109 (by decide) ?_
            refine ww_sub [2, 3, 0] rfl ?_
            exact ih_28 (t + 1) (max bts ((beatZ (M 11) (M 2) (M 10 1) (M 3 t).toNat) + 1)) ((up1 (up1 (up1 (up1 (M 12) 4 (max bts ((beatZ (M 11) (M 2) (M 10 1) (M 3 t).toNat) + 1))) 5 cls) 6 la) 7 ea) 5 + b2i (ls ((keyZ (M 11) (M 2) (M 10 1) (M 3 t).toNat).toNat) = 0)) (-1) z_82 (up1 ah ((M 3 t).toNat) (ls ((keyZ (M 11) (M 2) (M 10 1) (M 3 t).toNat).toNat))) (up1 ls ((keyZ (M 11) (M 2) (M 10 1) (M 3 t).toNat).toNat) ((((M 3 t).toNat) : Int) + 1)) (by omega) (pl_bea hcd (by omega) hbc.1 hbea) (by rw [hcls]; exact (pl_dif hcd (by omega) hkk hlk).symm) (by rw [c_94]; exact met_non hcd (by omega) c_75 hmt (by rcases hmet_82 with ⟨e9, f9⟩ | ⟨u, e9, f9⟩; exact fun u h9 => f9 u (mtP_c (fun p9 h8 => ((hlay_3 p9 h8).1).symm) h9); omega)) (pl_ah hcd (by omega) hkk hlk hah) (pl_lst hcd (by omega) hkk hls) (fun j h9 => by rw [up1_n (by omega)]; exact hl4 j h9) (by omega)
  refine ww_sub [1, 2, 0] rfl ?_
  refine ww_mem (M1 := ups (ups (ups (ups (ups (ups M 13 be_3) 14 ce_3) 15 se_3) 12 (up1 (up1 (up1 (up1 (M 12) 4 0) 5 0) 6 (-1)) 7 (-1))) 17 (M 17)) 16 (M 16)) (((ups_id (M := ups (ups (ups (ups (ups M 13 be_3) 14 ce_3) 15 se_3) 12 (up1 (up1 (up1 (up1 (M 12) 4 0) 5 0) 6 (-1)) 7 (-1))) 17 (M 17)) (h := 16)).trans (ups_id (M := ups (ups (ups (ups M 13 be_3) 14 ce_3) 15 se_3) 12 (up1 (up1 (up1 (up1 (M 12) 4 0) 5 0) 6 (-1)) 7 (-1))) (h := 17))).symm) ?_
  exact L_28 _ 0 0 0 (-1) (-1) (M 17) (M 16) (by omega) (pl_bea0 hcd) ((pl_dif0 hcd).symm) (met_0 hcd) (fun u h9 h8 => absurd h8 (bd_0 hcd u h9)) (fun j _ => Or.inl ⟨hl0 j, fun u h9 h8 => absurd h8 (bd_0 hcd u h9)⟩) (fun j _ => hl0 j) (Nat.lt_succ_self _)
