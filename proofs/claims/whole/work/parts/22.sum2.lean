set_option maxRecDepth 100000 in
set_option maxHeartbeats 4000000 in
theorem ct_X4_resize (w : WLD) (M : Mem) (a b c : Int) (ha : 1 ≤ a ∧ a ≤ 8) (hb : 1 ≤ b ∧ b ≤ 8) (hc : 1 ≤ c ∧ c ≤ 8) : CtV w yX4_resize cX4_resize 5 rm_X4_resize [.ref (wa w 1), .int (iZ a), .int (iZ b), .int (iZ c)] M (fun M1 => ∃ (np : Nat) (co : Nat → Int), CdOk (up1 (up1 (up1 (M 2) 0 a) 1 b) 2 c) co np ∧ M1 = ups (ups (ups (ups M 2 (up1 (up1 (up1 (M 2) 0 a) 1 b) 2 c)) 1 (up1 (up1 (M 1) 2 ((np : Nat) : Int)) 10 0)) 3 co) 8 (fil 2048 0 (M 8))) := by
  refine CtV.of (by decide) (Nat.le_of_ble_eq_true rfl) rfl rfl ?_
  intro k hkL C RT
  have hz : SzOk (up1 (up1 (up1 (M 2) 0 a) 1 b) 2 c) := ⟨ha, hb, hc⟩
  show WW w k 0 [(0, .ref (wa w 1)), (1, .int (iZ a)), (2, .int (iZ b)), (3, .int (iZ c))] [] M
  refine ww_aload_n C dX4_resize_0 0 rfl ?_
  refine gt_X4_9 C dX4_resize_1 ?_
  refine ww_iconst C dX4_resize_4 ?_
  refine ww_iload_n C dX4_resize_5 1 rfl ?_
  refine as_2 C 0 rfl (by omega) dX4_resize_6 ?_
  refine ww_aload_n C dX4_resize_7 0 rfl ?_
  refine gt_X4_9 C dX4_resize_8 ?_
  refine ww_iconst C dX4_resize_11 ?_
  refine ww_iload_n C dX4_resize_12 2 rfl ?_
  refine as_2 C 1 rfl (by omega) dX4_resize_13 ?_
  refine ww_mem (M1 := ups M 2 (up1 (up1 (M 2) 0 a) 1 b)) (ups_ups) ?_
  refine ww_aload_n C dX4_resize_14 0 rfl ?_
  refine gt_X4_9 C dX4_resize_15 ?_
  refine ww_iconst C dX4_resize_18 ?_
  refine ww_iload_n C dX4_resize_19 3 rfl ?_
  refine as_2 C 2 rfl (by omega) dX4_resize_20 ?_
  refine ww_mem (M1 := ups M 2 (up1 (up1 (up1 (M 2) 0 a) 1 b) 2 c)) (ups_ups) ?_
  refine ww_aload_n C dX4_resize_21 0 rfl ?_
  refine ww_iconst C dX4_resize_22 ?_
  refine pt_X4_18 C dX4_resize_23 ?_
  refine ww_mem (M1 := ups (ups M 2 (up1 (up1 (up1 (M 2) 0 a) 1 b) 2 c)) 1 (up1 (M 1) 2 0)) rfl ?_
  refine ww_iconst C dX4_resize_26 ?_
  refine ww_istore C dX4_resize_27 (lv' := [(4, .int (iZ 0)), (0, .ref (wa w 1)), (1, .int (iZ a)), (2, .int (iZ b)), (3, .int (iZ c))]) (by rw [hkL]; decide) rfl ?_
  have L_29 : ∀ (fuel : Nat) (t np : Nat) (co : Nat → Int) (ht : t ≤ 512) (hcd : CdT (up1 (up1 (up1 (M 2) 0 a) 1 b) 2 c) co np t), 512 - t < fuel → WW w k 29 [(0, .ref (wa w 1)), (4, .int (iZ ((t : Nat) : Int)))] [] (ups (ups (ups M 2 (up1 (up1 (up1 (M 2) 0 a) 1 b) 2 c)) 1 (up1 (M 1) 2 ((np : Nat) : Int))) 3 co) := by
    intro fuel
    induction fuel with
    | zero => intro t np co ht hcd hf_29; exact absurd hf_29 (Nat.not_lt_zero _)
    | succ fuel ih_29 =>
      intro t np co ht hcd hf_29
      have hnp := hcd.2.2.2.2
      refine ww_iload C dX4_resize_29 1 rfl ?_
      refine ww_sipush C dX4_resize_31 (by decide) ?_
      refine ww_icmp_ge C 89 dX4_resize_34 (by decide) (by omega) (by omega) (fun c_34 => ?_) (fun c_34 => ?_)
      · refine ww_aload_n C dX4_resize_89 0 rfl ?_
        refine gt_X4_37 C dX4_resize_90 ?_
        refine ww_iconst C dX4_resize_93 ?_
        refine ww_callSV C (As := [.ref (wa w 8), .int (iZ 0)]) (ct_J7_fill_53178 w (ups (ups (ups M 2 (up1 (up1 (up1 (M 2) 0 a) 1 b) 2 c)) 1 (up1 (M 1) 2 ((np : Nat) : Int))) 3 co) 8 2048 0 (show 8 < 44 from by decide) (fun _ => rfl) (show 2048 < 2147483648 from by decide)) mf_J7_fill_53178 ml_X4_51 (by decide) rfl rfl (Nat.le_of_ble_eq_true rfl) dX4_resize_94 (fun M_94 hp_94 => ?_)
        rw [hp_94]
        refine ww_mem (M1 := ups (ups (ups (ups M 2 (up1 (up1 (up1 (M 2) 0 a) 1 b) 2 c)) 1 (up1 (M 1) 2 ((np : Nat) : Int))) 3 co) 8 (fil 2048 0 ((ups (ups (ups M 2 (up1 (up1 (up1 (M 2) 0 a) 1 b) 2 c)) 1 (up1 (M 1) 2 ((np : Nat) : Int))) 3 co) 8))) rfl ?_
        refine ww_aload_n C dX4_resize_97 0 rfl ?_
        refine ww_iconst C dX4_resize_98 ?_
        refine pt_X4_43 C (by decide) dX4_resize_99 ?_
        refine ww_mem (M1 := ups (ups (ups (ups M 2 (up1 (up1 (up1 (M 2) 0 a) 1 b) 2 c)) 1 (up1 (up1 (M 1) 2 ((np : Nat) : Int)) 10 0)) 3 co) 8 (fil 2048 0 ((ups (ups (ups M 2 (up1 (up1 (up1 (M 2) 0 a) 1 b) 2 c)) 1 (up1 (M 1) 2 ((np : Nat) : Int))) 3 co) 8))) (((ups_comm (by decide)).trans (congrArg (fun X9 => ups X9 8 (fil 2048 0 ((ups (ups (ups M 2 (up1 (up1 (up1 (M 2) 0 a) 1 b) 2 c)) 1 (up1 (M 1) 2 ((np : Nat) : Int))) 3 co) 8))) ((ups_comm (by decide)).trans (congrArg (fun X9 => ups X9 3 co) ups_ups))))) ?_
        exact RT _ _ _ dX4_resize_102 (⟨np, co, by rw [show t = 512 by omega] at hcd; exact hcd, rfl⟩)
      · refine ww_aload_n C dX4_resize_37 0 rfl ?_
        refine ww_iload C dX4_resize_38 1 rfl ?_
        refine ww_bipush C dX4_resize_40 (by decide) ?_
        refine ww_ishr6 C dX4_resize_42 t rfl (by omega) ?_
        refine ww_iload C dX4_resize_43 1 rfl ?_
        refine ww_iconst C dX4_resize_45 ?_
        refine ww_ishr3 C dX4_resize_46 t rfl (by omega) ?_
        refine ww_bipush C dX4_resize_47 (by decide) ?_
        refine ww_iand7 C dX4_resize_49 (t / 8) rfl (by omega) ?_
        refine ww_iload C dX4_resize_50 1 rfl ?_
        refine ww_bipush C dX4_resize_52 (by decide) ?_
        refine ww_iand7 C dX4_resize_54 t rfl (by omega) ?_
        refine ww_callV C (As := [.int (iZ ((t / 64 : Nat) : Int)), .int (iZ (((t / 8) % 8 : Nat) : Int)), .int (iZ ((t % 8 : Nat) : Int))]) 1 (by decide) (ct_X4_codeOf w (ups (ups (ups M 2 (up1 (up1 (up1 (M 2) 0 a) 1 b) 2 c)) 1 (up1 (M 1) 2 ((np : Nat) : Int))) 3 co) ((t / 64 : Nat) : Int) (((t / 8) % 8 : Nat) : Int) ((t % 8 : Nat) : Int) (show R32 ((t / 64 : Nat) : Int) from by omega) (show R32 (((t / 8) % 8 : Nat) : Int) from by omega) (show R32 ((t % 8 : Nat) : Int) from by omega) (show SzOk ((up1 (up1 (up1 (M 2) 0 a) 1 b) 2 c)) from hz)) mf_X4_codeOf ml_X4_47 rfl rfl (by decide) rfl rfl (Nat.le_of_ble_eq_true rfl) dX4_resize_55 (fun z_55 M_55 hp_55 => ?_)
        rw [hp_55.1, hp_55.2]
        refine ww_top (b := codeZ ((up1 (up1 (up1 (M 2) 0 a) 1 b) 2 c)) ((t / 64 : Nat) : Int) (((t / 8) % 8 : Nat) : Int) ((t % 8 : Nat) : Int)) rfl ?_
        refine ww_iconst C dX4_resize_58 ?_
        refine ww_icmp_eq C 83 dX4_resize_59 (by decide) (by have := codeZ_b (i := ((t / 64 : Nat) : Int)) (j := ((t / 8 % 8 : Nat) : Int)) (k := ((t % 8 : Nat) : Int)) hz; exact ⟨by omega, by omega⟩) (by omega) (fun c_59 => ?_) (fun c_59 => ?_)
        · refine ww_iinc2 C dX4_resize_83 1 rfl (b := ((t + 1 : Nat) : Int)) (by omega) (lv' := [(4, .int (iZ ((t + 1 : Nat) : Int))), (0, .ref (wa w 1))]) (by rw [hkL]; decide) rfl ?_
          refine ww_goto C 29 dX4_resize_86 (by decide) ?_
          refine ww_sub [1, 0] rfl ?_
          exact ih_29 (t + 1) np co (by omega) (CdT_skip hcd (fun q9 => by have e9 := codeZ_P q9; omega)) (by omega)
        · refine ww_aload_n C dX4_resize_62 0 rfl ?_
          refine gt_X4_15 C dX4_resize_63 ?_
          refine ww_aload_n C dX4_resize_66 0 rfl ?_
          refine gt_X4_18 C dX4_resize_67 ?_
          refine ww_top (b := ((np : Nat) : Int)) (rfl) ?_
          refine ww_iload C dX4_resize_70 1 rfl ?_
          refine as_3 C np rfl (by omega) dX4_resize_72 ?_
          refine ww_mem (M1 := ups (ups (ups M 2 (up1 (up1 (up1 (M 2) 0 a) 1 b) 2 c)) 1 (up1 (M 1) 2 ((np : Nat) : Int))) 3 (up1 co np ((t : Nat) : Int))) (ups_ups) ?_
          refine ww_aload_n C dX4_resize_73 0 rfl ?_
          refine ww_dup C dX4_resize_74 rfl ?_
          refine gt_X4_18 C dX4_resize_75 ?_
          refine ww_top (b := ((np : Nat) : Int)) (rfl) ?_
          refine ww_iconst C dX4_resize_78 ?_
          refine ww_iadd C dX4_resize_79 ?_
          refine ww_top (b := ((np + 1 : Nat) : Int)) (by omega) ?_
          refine pt_X4_18 C dX4_resize_80 ?_
          refine ww_mem (M1 := ups (ups (ups M 2 (up1 (up1 (up1 (M 2) 0 a) 1 b) 2 c)) 1 (up1 (up1 (M 1) 2 ((np : Nat) : Int)) 2 ((np + 1 : Nat) : Int))) 3 (up1 co np ((t : Nat) : Int))) (((ups_comm (by decide)).trans (congrArg (fun X9 => ups X9 3 (up1 co np ((t : Nat) : Int))) ups_ups))) ?_
          refine ww_iinc2 C dX4_resize_83 1 rfl (b := ((t + 1 : Nat) : Int)) (by omega) (lv' := [(4, .int (iZ ((t + 1 : Nat) : Int))), (0, .ref (wa w 1))]) (by rw [hkL]; decide) rfl ?_
          refine ww_goto C 29 dX4_resize_86 (by decide) ?_
          refine ww_sub [1, 0] rfl ?_
          exact ih_29 (t + 1) (np + 1) (up1 co np ((t : Nat) : Int)) (by omega) (CdT_add hcd (Classical.byContradiction (fun q9 => c_59 (codeZ_N q9)))) (by omega)
  refine ww_sub [1, 0] rfl ?_
  refine ww_mem (M1 := ups (ups (ups M 2 (up1 (up1 (up1 (M 2) 0 a) 1 b) 2 c)) 1 (up1 (M 1) 2 ((0 : Nat) : Int))) 3 (M 3)) ((ups_id (M := ups (ups M 2 (up1 (up1 (up1 (M 2) 0 a) 1 b) 2 c)) 1 (up1 (M 1) 2 0)) (h := 3)).symm) ?_
  exact L_29 _ 0 0 (M 3) (by omega) (CdT_0 _ _) (Nat.lt_succ_self _)
set_option maxRecDepth 100000 in
set_option maxHeartbeats 4000000 in
theorem ct_X4_plainValue (w : WLD) (M : Mem) (nv np v p : Nat) (hv : v < 4) (hp : p < 512) (hvk : M 1 10 = 0 ∨ M 1 10 = 1) (har : ∀ q : Nat, R32 (M 9 q)) (hnv : M 1 3 = (nv : Int)) (hn4 : nv ≤ 4) (hs : SzOk (M 2)) (hst : StOk (M 4)) (hac : ∀ v : Nat, v < nv → 0 ≤ M 5 v ∧ M 5 v ≤ 7) (hlf : ∀ v : Nat, v < nv → 0 ≤ M 6 v ∧ M 6 v < nv) (hrt : ∀ v : Nat, v < nv → 0 ≤ M 7 v ∧ M 7 v < nv) (hed : ∀ q : Nat, R32 (M 8 q)) (hnp : M 1 2 = (np : Int)) (hcd : CdOk (M 2) (M 3) np) : CtI w yX4_plainValue cX4_plainValue 4 (some .int) rm_X4_plainValue [.ref (wa w 1), .int (iZ ((v : Nat) : Int)), .int (iZ ((p : Nat) : Int))] M (fun z M1 => (M 1 10 = 1 ∧ z = M 9 (512 * v + p) ∧ M1 = M) ∨ (M 1 10 = 0 ∧ z = plA (M 2) (M 4) (M 5) (M 6) (M 7) (M 8) nv (M 9) 512 (512 * v + p) ∧ M1 = ups (ups M 9 (plA (M 2) (M 4) (M 5) (M 6) (M 7) (M 8) nv (M 9) 512)) 1 (up1 (M 1) 10 1))) := by
  refine CtI.of (by decide) (Nat.le_of_ble_eq_true rfl) rfl rfl ?_
  intro k hkL C RT
  show WW w k 0 [(0, .ref (wa w 1)), (1, .int (iZ ((v : Nat) : Int))), (2, .int (iZ ((p : Nat) : Int)))] [] M
  refine ww_aload_n C dX4_plainValue_0 0 rfl ?_
  refine gt_X4_43 C dX4_plainValue_1 ?_
  refine ww_if_ne C 42 dX4_plainValue_4 (by decide) (by omega) (fun c_4 => ?_) (fun c_4 => ?_)
  · refine ww_aload_n C dX4_plainValue_42 0 rfl ?_
    refine gt_X4_40 C dX4_plainValue_43 ?_
    refine ww_iload_n C dX4_plainValue_46 1 rfl ?_
    refine ww_sipush C dX4_plainValue_47 (by decide) ?_
    refine ww_imul C dX4_plainValue_50 ?_
    refine ww_iload_n C dX4_plainValue_51 2 rfl ?_
    refine ww_iadd C dX4_plainValue_52 ?_
    refine al_9 C (512 * v + p) (z := M 9 (512 * v + p)) (by omega) (by omega) rfl dX4_plainValue_53 ?_
    exact RT _ _ _ _ dX4_plainValue_54 (by first | exact Or.inl ⟨by omega, rfl, rfl⟩ | exact Or.inr ⟨by omega, rfl, rfl⟩)
  · refine ww_iconst C dX4_plainValue_7 ?_
    refine ww_istore_n C dX4_plainValue_8 (lv' := [(3, .int (iZ 0)), (0, .ref (wa w 1)), (1, .int (iZ ((v : Nat) : Int))), (2, .int (iZ ((p : Nat) : Int)))]) (by rw [hkL]; decide) rfl ?_
    have L_9 : ∀ (fuel : Nat) (t : Nat) (ht : t ≤ np), np - t < fuel → WW w k 9 [(0, .ref (wa w 1)), (1, .int (iZ ((v : Nat) : Int))), (2, .int (iZ ((p : Nat) : Int))), (3, .int (iZ ((t : Nat) : Int)))] [] (ups M 9 (plA (M 2) (M 4) (M 5) (M 6) (M 7) (M 8) nv (M 9) (bdN (M 3) np t))) := by
      intro fuel
      induction fuel with
      | zero => intro t ht hf_9; exact absurd hf_9 (Nat.not_lt_zero _)
      | succ fuel ih_9 =>
        intro t ht hf_9
        have hc1 := hcd.1 t
        have hnp9 := hcd.2.2.2.2
        refine ww_iload_n C dX4_plainValue_9 3 rfl ?_
        refine ww_aload_n C dX4_plainValue_10 0 rfl ?_
        refine gt_X4_18 C dX4_plainValue_11 ?_
        refine ww_top (b := ((np : Nat) : Int)) (hnp) ?_
        refine ww_icmp_ge C 37 dX4_plainValue_14 (by decide) (by omega) (by omega) (fun c_14 => ?_) (fun c_14 => ?_)
        · refine ww_mem (M1 := ups M 9 (plA (M 2) (M 4) (M 5) (M 6) (M 7) (M 8) nv (M 9) 512)) (by rw [show t = np by omega, bdN_out (Nat.le_refl np)]) ?_
          refine ww_aload_n C dX4_plainValue_37 0 rfl ?_
          refine ww_iconst C dX4_plainValue_38 ?_
          refine pt_X4_43 C (by decide) dX4_plainValue_39 ?_
          refine ww_mem (M1 := ups (ups M 9 (plA (M 2) (M 4) (M 5) (M 6) (M 7) (M 8) nv (M 9) 512)) 1 (up1 (M 1) 10 1)) rfl ?_
          refine ww_aload_n C dX4_plainValue_42 0 rfl ?_
          refine gt_X4_40 C dX4_plainValue_43 ?_
          refine ww_iload_n C dX4_plainValue_46 1 rfl ?_
          refine ww_sipush C dX4_plainValue_47 (by decide) ?_
          refine ww_imul C dX4_plainValue_50 ?_
          refine ww_iload_n C dX4_plainValue_51 2 rfl ?_
          refine ww_iadd C dX4_plainValue_52 ?_
          refine al_9 C (512 * v + p) (z := (plA (M 2) (M 4) (M 5) (M 6) (M 7) (M 8) nv (M 9) 512) (512 * v + p)) (by omega) (by omega) rfl dX4_plainValue_53 ?_
          exact RT _ _ _ _ dX4_plainValue_54 (by first | exact Or.inl ⟨by omega, rfl, rfl⟩ | exact Or.inr ⟨by omega, rfl, rfl⟩)
        · refine ww_aload_n C dX4_plainValue_17 0 rfl ?_
          refine ww_aload_n C dX4_plainValue_18 0 rfl ?_
          refine gt_X4_40 C dX4_plainValue_19 ?_
          refine ww_aload_n C dX4_plainValue_22 0 rfl ?_
          refine gt_X4_15 C dX4_plainValue_23 ?_
          refine ww_iload_n C dX4_plainValue_26 3 rfl ?_
          refine al_3 C t (z := (((M 3 t).toNat : Nat) : Int)) rfl (by have := hcd.2.2.2.2; omega) ((hcd.1 t (by omega)).1) dX4_plainValue_27 ?_
          refine ww_callVV C (As := [.ref (wa w 9), .int (iZ (((M 3 t).toNat : Nat) : Int))]) 1 (by decide) (ct_X4_workPoint_9 w (ups M 9 (plA (M 2) (M 4) (M 5) (M 6) (M 7) (M 8) nv (M 9) (bdN (M 3) np t))) nv ((M 3 t).toNat) (show ((M 3 t).toNat) < 512 from (hcd.1 t (by omega)).2.1) (show (M 1) 3 = (nv : Int) from hnv) (show nv ≤ 4 from hn4) (show SzOk ((M 2)) from hs) (show StOk ((M 4)) from hst) (show ∀ v : Nat, v < nv → 0 ≤ (M 5) v ∧ (M 5) v ≤ 7 from hac) (show ∀ v : Nat, v < nv → 0 ≤ (M 6) v ∧ (M 6) v < nv from hlf) (show ∀ v : Nat, v < nv → 0 ≤ (M 7) v ∧ (M 7) v < nv from hrt) (show ∀ q : Nat, R32 ((M 8) q) from hed) (show ∀ q : Nat, R32 ((plA (M 2) (M 4) (M 5) (M 6) (M 7) (M 8) nv (M 9) (bdN (M 3) np t)) q) from fun q9 => plA_R hed har _ q9)) mf_X4_workPoint ml_X4_85 rfl rfl (by decide) rfl rfl (Nat.le_of_ble_eq_true rfl) dX4_plainValue_28 (fun M_28 hp_28 => ?_)
          rw [hp_28]
          refine ww_mem (M1 := ups M 9 (wkA ((M 2)) ((M 4)) ((M 5)) ((M 6)) ((M 7)) ((M 8)) ((plA (M 2) (M 4) (M 5) (M 6) (M 7) (M 8) nv (M 9) (bdN (M 3) np t))) ((M 3 t).toNat) nv)) ups_ups ?_
          refine ww_mem (M1 := ups M 9 (plA (M 2) (M 4) (M 5) (M 6) (M 7) (M 8) nv (M 9) (bdN (M 3) np (t + 1)))) (by rw [plA_bd hcd (by omega)]) ?_
          refine ww_iinc2 C dX4_plainValue_31 3 rfl (b := ((t + 1 : Nat) : Int)) (by omega) (lv' := [(3, .int (iZ ((t + 1 : Nat) : Int))), (0, .ref (wa w 1)), (1, .int (iZ ((v : Nat) : Int))), (2, .int (iZ ((p : Nat) : Int)))]) (by rw [hkL]; decide) rfl ?_
          refine ww_goto C 9 dX4_plainValue_34 (by decide) ?_
          refine ww_sub [1, 2, 3, 0] rfl ?_
          exact ih_9 (t + 1) (by omega) (by omega)
    refine ww_sub [1, 2, 3, 0] rfl ?_
    refine ww_mem (M1 := ups M 9 (plA (M 2) (M 4) (M 5) (M 6) (M 7) (M 8) nv (M 9) (bdN (M 3) np 0))) (by rw [plA_bd0 hcd, ups_id]) ?_
    exact L_9 _ 0 (by omega) (Nat.lt_succ_self _)
set_option maxRecDepth 100000 in
set_option maxHeartbeats 4000000 in
theorem ct_X4_resultCode (w : WLD) (M : Mem) (np v : Nat) (n : Int) (hv : v < 4) (hn : R32 n) (hs : SzOk (M 2)) (hst : StOk (M 4)) (hnp : M 1 2 = (np : Int)) (hcd : CdOk (M 2) (M 3) np) : CtI w yX4_resultCode cX4_resultCode 5 (some .int) rm_X4_resultCode [.ref (wa w 1), .int (iZ ((v : Nat) : Int)), .int (iZ n)] M (fun z M1 => nthR (fun u : Nat => isP (M 2) u ∧ stepZ (M 2) (M 4) v u 1 = -1) n z ∧ M1 = M) := by
  refine CtI.of (by decide) (Nat.le_of_ble_eq_true rfl) rfl rfl ?_
  intro k hkL C RT
  show WW w k 0 [(0, .ref (wa w 1)), (1, .int (iZ ((v : Nat) : Int))), (2, .int (iZ n))] [] M
  refine ww_iconst C dX4_resultCode_0 ?_
  refine ww_istore_n C dX4_resultCode_1 (lv' := [(3, .int (iZ 0)), (0, .ref (wa w 1)), (1, .int (iZ ((v : Nat) : Int))), (2, .int (iZ n))]) (by rw [hkL]; decide) rfl ?_
  refine ww_iconst C dX4_resultCode_2 ?_
  refine ww_istore C dX4_resultCode_3 (lv' := [(4, .int (iZ 0)), (3, .int (iZ 0)), (0, .ref (wa w 1)), (1, .int (iZ ((v : Nat) : Int))), (2, .int (iZ n))]) (by rw [hkL]; decide) rfl ?_
  have L_5 : ∀ (fuel : Nat) (t m : Nat) (ht : t ≤ np) (hm : (m : Int) = cnt (fun u : Nat => isP (M 2) u ∧ stepZ (M 2) (M 4) v u 1 = -1) (bdN (M 3) np t)) (hno : ∀ u : Nat, u < bdN (M 3) np t → (fun u : Nat => isP (M 2) u ∧ stepZ (M 2) (M 4) v u 1 = -1) u → cnt (fun u : Nat => isP (M 2) u ∧ stepZ (M 2) (M 4) v u 1 = -1) u ≠ n), np - t < fuel → WW w k 5 [(0, .ref (wa w 1)), (1, .int (iZ ((v : Nat) : Int))), (2, .int (iZ n)), (3, .int (iZ ((m : Nat) : Int))), (4, .int (iZ ((t : Nat) : Int)))] [] M := by
    intro fuel
    induction fuel with
    | zero => intro t m ht hm hno hf_5; exact absurd hf_5 (Nat.not_lt_zero _)
    | succ fuel ih_5 =>
      intro t m ht hm hno hf_5
      have hc1 := hcd.1 t
      have hnp9 := hcd.2.2.2.2
      have hmb := cnt_b (fun u : Nat => isP (M 2) u ∧ stepZ (M 2) (M 4) v u 1 = -1) (bdN (M 3) np t)
      have hbd : bdN (M 3) np t ≤ 512 := by
        unfold bdN
        split
        · exact Nat.le_of_lt (hcd.1 t (by assumption)).2.1
        · exact Nat.le_refl _
      have hsb := stepZ_b (sz := M 2) (st := M 4) (v := v) (p := (M 3 t).toNat) (sg := 1) hs
      refine ww_iload C dX4_resultCode_5 4 rfl ?_
      refine ww_aload_n C dX4_resultCode_7 0 rfl ?_
      refine gt_X4_18 C dX4_resultCode_8 ?_
      refine ww_top (b := ((np : Nat) : Int)) (hnp) ?_
      refine ww_icmp_ge C 53 dX4_resultCode_11 (by decide) (by omega) (by omega) (fun c_11 => ?_) (fun c_11 => ?_)
      · refine ww_iconst C dX4_resultCode_53 ?_
        exact RT _ _ _ _ dX4_resultCode_54 (⟨Or.inr ⟨rfl, fun u h9 q9 => hno u (by rw [bdN_out (by omega)]; exact h9) q9⟩, rfl⟩)
      · refine ww_aload_n C dX4_resultCode_14 0 rfl ?_
        refine ww_iload_n C dX4_resultCode_15 1 rfl ?_
        refine ww_aload_n C dX4_resultCode_16 0 rfl ?_
        refine gt_X4_15 C dX4_resultCode_17 ?_
        refine ww_iload C dX4_resultCode_20 4 rfl ?_
        refine al_3 C t (z := (((M 3 t).toNat : Nat) : Int)) rfl (by omega) ((hcd.1 t (by omega)).1) dX4_resultCode_22 ?_
        refine ww_iconst C dX4_resultCode_23 ?_
        refine ww_callV C (As := [.int (iZ ((v : Nat) : Int)), .int (iZ (((M 3 t).toNat : Nat) : Int)), .int (iZ 1)]) 1 (by decide) (ct_X4_stepped w M v ((M 3 t).toNat) 1 (by omega) ((hcd.1 t (by omega)).2.1) (Or.inl rfl) (hs) (hst)) mf_X4_stepped ml_X4_75 rfl rfl (by decide) rfl rfl (Nat.le_of_ble_eq_true rfl) dX4_resultCode_24 (fun z_24 M_24 hp_24 => ?_)
        rw [hp_24.1, hp_24.2]
        refine ww_iconst C dX4_resultCode_27 ?_
        refine ww_icmp_ne C 47 dX4_resultCode_28 (by decide) (by omega) (by omega) (fun c_28 => ?_) (fun c_28 => ?_)
        · refine ww_iinc2 C dX4_resultCode_47 4 rfl (b := ((t + 1 : Nat) : Int)) (by omega) (lv' := [(4, .int (iZ ((t + 1 : Nat) : Int))), (0, .ref (wa w 1)), (1, .int (iZ ((v : Nat) : Int))), (2, .int (iZ n)), (3, .int (iZ ((m : Nat) : Int)))]) (by rw [hkL]; decide) rfl ?_
          refine ww_goto C 5 dX4_resultCode_50 (by decide) ?_
          refine ww_sub [1, 2, 3, 4, 0] rfl ?_
          exact ih_5 (t + 1) m (by omega) (by rw [cnt_skip (a := (M 3 t).toNat + 1) (bd_le hcd (by omega)) (fun u h1 h2 q9 => bd_gap hcd (by omega) u h1 h2 q9.1), cnt_f (P := fun u : Nat => isP (M 2) u ∧ stepZ (M 2) (M 4) v u 1 = -1) (fun q9 => c_28 q9.2)]; rw [bdN_in (by omega)] at hm; exact hm) (fun u h9 q9 => by rcases Nat.lt_trichotomy u (M 3 t).toNat with a9 | a9 | a9; exact hno u (by rw [bdN_in (by omega)]; exact a9) q9; rw [a9] at q9; exact absurd q9.2 c_28; exact absurd q9.1 (bd_gap hcd (by omega) u a9 h9)) (by omega)
        · refine ww_iload_n C dX4_resultCode_31 3 rfl ?_
          refine ww_iload_n C dX4_resultCode_32 2 rfl ?_
          refine ww_icmp_ne C 44 dX4_resultCode_33 (by decide) (by omega) (by omega) (fun c_33 => ?_) (fun c_33 => ?_)
          · refine ww_iinc2 C dX4_resultCode_44 3 rfl (b := ((m + 1 : Nat) : Int)) (by omega) (lv' := [(3, .int (iZ ((m + 1 : Nat) : Int))), (0, .ref (wa w 1)), (1, .int (iZ ((v : Nat) : Int))), (2, .int (iZ n)), (4, .int (iZ ((t : Nat) : Int)))]) (by rw [hkL]; decide) rfl ?_
            refine ww_iinc2 C dX4_resultCode_47 4 rfl (b := ((t + 1 : Nat) : Int)) (by omega) (lv' := [(4, .int (iZ ((t + 1 : Nat) : Int))), (3, .int (iZ ((m + 1 : Nat) : Int))), (0, .ref (wa w 1)), (1, .int (iZ ((v : Nat) : Int))), (2, .int (iZ n))]) (by rw [hkL]; decide) rfl ?_
            refine ww_goto C 5 dX4_resultCode_50 (by decide) ?_
            refine ww_sub [2, 3, 4, 1, 0] rfl ?_
            exact ih_5 (t + 1) (m + 1) (by omega) (by rw [cnt_skip (a := (M 3 t).toNat + 1) (bd_le hcd (by omega)) (fun u h1 h2 q9 => bd_gap hcd (by omega) u h1 h2 q9.1), cnt_t (P := fun u : Nat => isP (M 2) u ∧ stepZ (M 2) (M 4) v u 1 = -1) ⟨(hcd.1 t (by omega)).2.2, c_28⟩]; rw [bdN_in (by omega)] at hm; omega) (fun u h9 q9 => by rcases Nat.lt_trichotomy u (M 3 t).toNat with a9 | a9 | a9; exact hno u (by rw [bdN_in (by omega)]; exact a9) q9; rw [a9]; rw [bdN_in (by omega)] at hm; omega; exact absurd q9.1 (bd_gap hcd (by omega) u a9 h9)) (by omega)
          · refine ww_aload_n C dX4_resultCode_36 0 rfl ?_
            refine gt_X4_15 C dX4_resultCode_37 ?_
            refine ww_iload C dX4_resultCode_40 4 rfl ?_
            refine al_3 C t (z := (((M 3 t).toNat : Nat) : Int)) rfl (by omega) ((hcd.1 t (by omega)).1) dX4_resultCode_42 ?_
            exact RT _ _ _ _ dX4_resultCode_43 (⟨Or.inl ⟨(M 3 t).toNat, (hcd.1 t (by omega)).2.1, rfl, ⟨(hcd.1 t (by omega)).2.2, c_28⟩, by rw [bdN_in (by omega)] at hm; omega⟩, rfl⟩)
  refine ww_sub [2, 3, 4, 1, 0] rfl ?_
  exact L_5 _ 0 0 (by omega) ((cnt_skip (a := 0) (Nat.zero_le _) (fun u _ h9 q9 => bd_0 hcd u h9 q9.1)).symm) (fun u h9 q9 => absurd q9.1 (bd_0 hcd u h9)) (Nat.lt_succ_self _)
