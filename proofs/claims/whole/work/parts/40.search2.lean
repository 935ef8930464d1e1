set_option maxRecDepth 100000 in
set_option maxHeartbeats 4000000 in
theorem ct_X3_countCells (w : WLD) (M : Mem) (np : Nat) (hs : SzOk (M 2)) (hnp : M 1 2 = (np : Int)) (hcd : CdOk (M 2) (M 3) np) (h2 : Nu2 (M 23)) (hck : cellsOk (M 23) (M 2)) (hfi : M 23 3 ≠ 0 ∨ M 23 4 ≠ 0 ∨ M 23 5 ≠ 0) (ha : ∀ d : Nat, -8 ≤ M 24 d ∧ M 24 d ≤ 8) : CtI w yX3_countCells cX3_countCells 2 (some .int) rm_X3_countCells [.ref (wa w 19), .ref (wa w 1)] M (fun z M1 => z = difK (M 2) (keyZ (M 23) (M 2) 1) 512 ∧ ∃ ac : Nat → Int, (∀ d : Nat, -8 ≤ ac d ∧ ac d ≤ 8) ∧ M1 = ups M 24 ac) := by
  refine CtI.of (by decide) (Nat.le_of_ble_eq_true rfl) rfl rfl ?_
  intro k hkL C RT
  have hnp9 := np_eq hs hcd
  show WW w k 0 [(0, .ref (wa w 19)), (1, .ref (wa w 1))] [] M
  refine ww_aload_n C dX3_countCells_0 0 rfl ?_
  refine ww_iconst C dX3_countCells_1 ?_
  refine ww_iconst C dX3_countCells_2 ?_
  refine ww_callV C (As := [.int (iZ 1), .int (iZ 2)]) 19 (by decide) (ct_X3_findAcross w M 1 2 (by omega) (by omega) (h2)) mf_X3_findAcross ml_X3_79 rfl rfl (by decide) rfl rfl (Nat.le_of_ble_eq_true rfl) dX3_countCells_3 (fun z_3 M_3 hp_3 => ?_)
  have hz_3 : z_3 = 0 ∨ z_3 = 1 := by rcases hp_3 with e9 | e9 <;> omega
  refine ww_if_eq C 22 dX3_countCells_6 (by decide) (by omega) (fun c_6 => ?_) (fun c_6 => ?_)
  · have hx_3 : crG (M 23) 1 2 = 0 ∧ M_3 = M := by rcases hp_3 with e9 | e9; (exfalso; omega); exact ⟨e9.1, e9.2.2⟩
    clear hp_3
    refine ww_mem (M1 := M) hx_3.2 ?_
    refine ww_aload_n C dX3_countCells_22 0 rfl ?_
    refine ww_aload_n C dX3_countCells_23 1 rfl ?_
    refine ww_callV C (As := [.ref (wa w 1)]) 19 (by decide) (ct_X3_countLine w M (hs) (h2) (hx_3.1) (hfi)) mf_X3_countLine ml_X3_95 rfl rfl (by decide) rfl rfl (Nat.le_of_ble_eq_true rfl) dX3_countCells_24 (fun z_24 M_24 hp_24 => ?_)
    rw [hp_24.1, hp_24.2]
    exact RT _ _ _ _ dX3_countCells_27 (by first | exact ⟨rfl, M 24, ha, ups_id.symm⟩ | exact ⟨by rw [hck.1 hx_3.1, hnp9, hbe], _, hab, rfl⟩)
  · have hx_3 : crG (M 23) 1 2 ≠ 0 ∧ M_3 = ups M 24 (up1 (up1 (up1 (M 24) 0 ((crI (M 23) 1 2).tdiv ((crG (M 23) 1 2 : Nat) : Int))) 1 ((crJ (M 23) 1 2).tdiv ((crG (M 23) 1 2 : Nat) : Int))) 2 ((crK (M 23) 1 2).tdiv ((crG (M 23) 1 2 : Nat) : Int))) := by rcases hp_3 with e9 | e9; exact ⟨e9.1, e9.2.2⟩; (exfalso; omega)
    clear hp_3
    refine ww_mem (M1 := ups M 24 (up1 (up1 (up1 (M 24) 0 ((crI (M 23) 1 2).tdiv ((crG (M 23) 1 2 : Nat) : Int))) 1 ((crJ (M 23) 1 2).tdiv ((crG (M 23) 1 2 : Nat) : Int))) 2 ((crK (M 23) 1 2).tdiv ((crG (M 23) 1 2 : Nat) : Int)))) hx_3.2 ?_
    have hab : ∀ d : Nat, -8 ≤ (up1 (up1 (up1 (M 24) 0 ((crI (M 23) 1 2).tdiv ((crG (M 23) 1 2 : Nat) : Int))) 1 ((crJ (M 23) 1 2).tdiv ((crG (M 23) 1 2 : Nat) : Int))) 2 ((crK (M 23) 1 2).tdiv ((crG (M 23) 1 2 : Nat) : Int))) d ∧ (up1 (up1 (up1 (M 24) 0 ((crI (M 23) 1 2).tdiv ((crG (M 23) 1 2 : Nat) : Int))) 1 ((crJ (M 23) 1 2).tdiv ((crG (M 23) 1 2 : Nat) : Int))) 2 ((crK (M 23) 1 2).tdiv ((crG (M 23) 1 2 : Nat) : Int))) d ≤ 8 := ac_row h2 ha (by omega) (by omega)
    have hbe := bh_row (sz := M 2) (M 24) (M 23) 1 2
    refine ww_aload_n C dX3_countCells_9 1 rfl ?_
    refine gt_X3_83 C dX3_countCells_10 ?_
    refine ww_top (b := ((np : Nat) : Int)) (hnp) ?_
    refine ww_aload_n C dX3_countCells_13 0 rfl ?_
    refine ww_aload_n C dX3_countCells_14 1 rfl ?_
    refine ww_callV C (As := [.ref (wa w 1)]) 19 (by decide) (ct_X3_countBehind w (ups M 24 (up1 (up1 (up1 (M 24) 0 ((crI (M 23) 1 2).tdiv ((crG (M 23) 1 2 : Nat) : Int))) 1 ((crJ (M 23) 1 2).tdiv ((crG (M 23) 1 2 : Nat) : Int))) 2 ((crK (M 23) 1 2).tdiv ((crG (M 23) 1 2 : Nat) : Int)))) (show SzOk ((M 2)) from hs) (show ∀ d : Nat, -8 ≤ (up1 (up1 (up1 (M 24) 0 ((crI (M 23) 1 2).tdiv ((crG (M 23) 1 2 : Nat) : Int))) 1 ((crJ (M 23) 1 2).tdiv ((crG (M 23) 1 2 : Nat) : Int))) 2 ((crK (M 23) 1 2).tdiv ((crG (M 23) 1 2 : Nat) : Int))) d ∧ (up1 (up1 (up1 (M 24) 0 ((crI (M 23) 1 2).tdiv ((crG (M 23) 1 2 : Nat) : Int))) 1 ((crJ (M 23) 1 2).tdiv ((crG (M 23) 1 2 : Nat) : Int))) 2 ((crK (M 23) 1 2).tdiv ((crG (M 23) 1 2 : Nat) : Int))) d ≤ 8 from hab)) mf_X3_countBehind ml_X3_88 rfl rfl (by decide) rfl rfl (Nat.le_of_ble_eq_true rfl) dX3_countCells_15 (fun z_15 M_15 hp_15 => ?_)
    rw [hp_15.1, hp_15.2]
    refine ww_top (b := bhZ ((M 2)) ((up1 (up1 (up1 (M 24) 0 ((crI (M 23) 1 2).tdiv ((crG (M 23) 1 2 : Nat) : Int))) 1 ((crJ (M 23) 1 2).tdiv ((crG (M 23) 1 2 : Nat) : Int))) 2 ((crK (M 23) 1 2).tdiv ((crG (M 23) 1 2 : Nat) : Int))))) rfl ?_
    refine ww_isub C dX3_countCells_18 ?_
    refine ww_goto C 27 dX3_countCells_19 (by decide) ?_
    exact RT _ _ _ _ dX3_countCells_27 (by first | exact ⟨rfl, M 24, ha, ups_id.symm⟩ | exact ⟨by rw [hck.1 hx_3.1, hnp9, hbe], _, hab, rfl⟩)
set_option maxRecDepth 100000 in
set_option maxHeartbeats 4000000 in
theorem ct_X3_partsAll (w : WLD) (M : Mem) (np : Nat) (cl : Int) (hs : SzOk (M 2)) (hnp : M 1 2 = (np : Int)) (hcd : CdOk (M 2) (M 3) np) (h2 : Nu2 (M 23)) (hck : cellsOk (M 23) (M 2)) (ha : ∀ d : Nat, -8 ≤ M 24 d ∧ M 24 d ≤ 8) (hcl : cl = difK (M 2) (keyZ (M 23) (M 2) 1) 512) : CtI w yX3_partsAll cX3_partsAll 3 (some .boolean) rm_X3_partsAll [.ref (wa w 19), .ref (wa w 1), .int (iZ cl)] M (fun z M1 => (z = 0 ∨ z = 1) ∧ (z = 1 ↔ ¬ metZ (M 23) (M 2)) ∧ ∃ ac : Nat → Int, (∀ d : Nat, -8 ≤ ac d ∧ ac d ≤ 8) ∧ M1 = ups M 24 ac) := by
  refine CtI.ofZ (by decide) (Nat.le_of_ble_eq_true rfl) rfl rfl (fun z M9 h9 => h9.1) ?_
  intro k hkL C RT
  have hnp9 := np_eq hs hcd
  have hdb := dif_b (M 2) (keyZ (M 23) (M 2) 1) 512
  have hnp8 := hcd.2.2.2.2
  show WW w k 0 [(0, .ref (wa w 19)), (1, .ref (wa w 1)), (2, .int (iZ cl))] [] M
  refine ww_aload_n C dX3_partsAll_0 0 rfl ?_
  refine ww_iconst C dX3_partsAll_1 ?_
  refine ww_iconst C dX3_partsAll_2 ?_
  refine ww_callV C (As := [.int (iZ 0), .int (iZ 1)]) 19 (by decide) (ct_X3_findAcross w M 0 1 (by omega) (by omega) (h2)) mf_X3_findAcross ml_X3_79 rfl rfl (by decide) rfl rfl (Nat.le_of_ble_eq_true rfl) dX3_partsAll_3 (fun z_3 M_3 hp_3 => ?_)
  have hz_3 : z_3 = 0 ∨ z_3 = 1 := by rcases hp_3 with e9 | e9 <;> omega
  refine ww_if_ne C 23 dX3_partsAll_6 (by decide) (by omega) (fun c_6 => ?_) (fun c_6 => ?_)
  · have hx_3 : crG (M 23) 0 1 ≠ 0 ∧ M_3 = ups M 24 (up1 (up1 (up1 (M 24) 0 ((crI (M 23) 0 1).tdiv ((crG (M 23) 0 1 : Nat) : Int))) 1 ((crJ (M 23) 0 1).tdiv ((crG (M 23) 0 1 : Nat) : Int))) 2 ((crK (M 23) 0 1).tdiv ((crG (M 23) 0 1 : Nat) : Int))) := by rcases hp_3 with e9 | e9; exact ⟨e9.1, e9.2.2⟩; (exfalso; omega)
    clear hp_3
    refine ww_mem (M1 := ups M 24 (up1 (up1 (up1 (M 24) 0 ((crI (M 23) 0 1).tdiv ((crG (M 23) 0 1 : Nat) : Int))) 1 ((crJ (M 23) 0 1).tdiv ((crG (M 23) 0 1 : Nat) : Int))) 2 ((crK (M 23) 0 1).tdiv ((crG (M 23) 0 1 : Nat) : Int)))) hx_3.2 ?_
    have hab : ∀ d : Nat, -8 ≤ (up1 (up1 (up1 (M 24) 0 ((crI (M 23) 0 1).tdiv ((crG (M 23) 0 1 : Nat) : Int))) 1 ((crJ (M 23) 0 1).tdiv ((crG (M 23) 0 1 : Nat) : Int))) 2 ((crK (M 23) 0 1).tdiv ((crG (M 23) 0 1 : Nat) : Int))) d ∧ (up1 (up1 (up1 (M 24) 0 ((crI (M 23) 0 1).tdiv ((crG (M 23) 0 1 : Nat) : Int))) 1 ((crJ (M 23) 0 1).tdiv ((crG (M 23) 0 1 : Nat) : Int))) 2 ((crK (M 23) 0 1).tdiv ((crG (M 23) 0 1 : Nat) : Int))) d ≤ 8 := ac_row h2 ha (by omega) (by omega)
    have hbe := bh_row (sz := M 2) (M 24) (M 23) 0 1
    have hbb := bh_b hs hab
    have hdo := do_row (M 24) (M 23) h2
    have hck1 := hck.2.1 hx_3.1
    rw [← hbe, ← hdo.1] at hck1
    refine ww_aload_n C dX3_partsAll_23 0 rfl ?_
    refine ww_aload_n C dX3_partsAll_24 1 rfl ?_
    refine ww_callV C (As := [.ref (wa w 1)]) 19 (by decide) (ct_X3_countBehind w (ups M 24 (up1 (up1 (up1 (M 24) 0 ((crI (M 23) 0 1).tdiv ((crG (M 23) 0 1 : Nat) : Int))) 1 ((crJ (M 23) 0 1).tdiv ((crG (M 23) 0 1 : Nat) : Int))) 2 ((crK (M 23) 0 1).tdiv ((crG (M 23) 0 1 : Nat) : Int)))) (show SzOk ((M 2)) from hs) (show ∀ d : Nat, -8 ≤ (up1 (up1 (up1 (M 24) 0 ((crI (M 23) 0 1).tdiv ((crG (M 23) 0 1 : Nat) : Int))) 1 ((crJ (M 23) 0 1).tdiv ((crG (M 23) 0 1 : Nat) : Int))) 2 ((crK (M 23) 0 1).tdiv ((crG (M 23) 0 1 : Nat) : Int))) d ∧ (up1 (up1 (up1 (M 24) 0 ((crI (M 23) 0 1).tdiv ((crG (M 23) 0 1 : Nat) : Int))) 1 ((crJ (M 23) 0 1).tdiv ((crG (M 23) 0 1 : Nat) : Int))) 2 ((crK (M 23) 0 1).tdiv ((crG (M 23) 0 1 : Nat) : Int))) d ≤ 8 from hab)) mf_X3_countBehind ml_X3_88 rfl rfl (by decide) rfl rfl (Nat.le_of_ble_eq_true rfl) dX3_partsAll_25 (fun z_25 M_25 hp_25 => ?_)
    rw [hp_25.1, hp_25.2]
    refine ww_top (b := bhZ ((M 2)) ((up1 (up1 (up1 (M 24) 0 ((crI (M 23) 0 1).tdiv ((crG (M 23) 0 1 : Nat) : Int))) 1 ((crJ (M 23) 0 1).tdiv ((crG (M 23) 0 1 : Nat) : Int))) 2 ((crK (M 23) 0 1).tdiv ((crG (M 23) 0 1 : Nat) : Int))))) rfl ?_
    refine ww_if_eq C 60 dX3_partsAll_28 (by decide) (by omega) (fun c_28 => ?_) (fun c_28 => ?_)
    · refine ww_iconst C dX3_partsAll_60 ?_
      refine ww_goto C 65 dX3_partsAll_61 (by decide) ?_
      exact RT _ _ _ _ dX3_partsAll_65 (by first | exact ⟨Or.inr rfl, ⟨fun _ h8 => (hck1.mp h8) (Or.inl c_28), fun _ => rfl⟩, _, hab, rfl⟩ | exact ⟨Or.inr rfl, ⟨fun _ h8 => (hck1.mp h8) (Or.inr c_57), fun _ => rfl⟩, _, hab, rfl⟩ | exact ⟨Or.inl rfl, ⟨fun h9 => by omega, fun h9 => absurd (hck1.mpr (fun h8 => h8.elim c_28 (fun h7 => h7 c_57))) h9⟩, _, hab, rfl⟩)
    · refine ww_aload_n C dX3_partsAll_31 0 rfl ?_
      refine gt_X3_29 C dX3_partsAll_32 ?_
      refine ww_iconst C dX3_partsAll_35 ?_
      refine ww_aload_n C dX3_partsAll_36 0 rfl ?_
      refine gt_X3_32 C dX3_partsAll_37 ?_
      refine ww_iconst C dX3_partsAll_40 ?_
      refine al_24 C 0 (z := (crI (M 23) 0 1).tdiv ((crG (M 23) 0 1 : Nat) : Int)) rfl (by omega) rfl dX3_partsAll_41 ?_
      refine ww_aload_n C dX3_partsAll_42 0 rfl ?_
      refine gt_X3_32 C dX3_partsAll_43 ?_
      refine ww_iconst C dX3_partsAll_46 ?_
      refine al_24 C 1 (z := (crJ (M 23) 0 1).tdiv ((crG (M 23) 0 1 : Nat) : Int)) rfl (by omega) rfl dX3_partsAll_47 ?_
      refine ww_aload_n C dX3_partsAll_48 0 rfl ?_
      refine gt_X3_32 C dX3_partsAll_49 ?_
      refine ww_iconst C dX3_partsAll_52 ?_
      refine al_24 C 2 (z := (crK (M 23) 0 1).tdiv ((crG (M 23) 0 1 : Nat) : Int)) rfl (by omega) rfl dX3_partsAll_53 ?_
      refine ww_callV C (As := [.int (iZ 2), .int (iZ ((crI (M 23) 0 1).tdiv ((crG (M 23) 0 1 : Nat) : Int))), .int (iZ ((crJ (M 23) 0 1).tdiv ((crG (M 23) 0 1 : Nat) : Int))), .int (iZ ((crK (M 23) 0 1).tdiv ((crG (M 23) 0 1 : Nat) : Int)))]) 22 (pl_lt (Or.inr (Or.inr rfl))) (ct_X1_times w (ups M 24 (up1 (up1 (up1 (M 24) 0 ((crI (M 23) 0 1).tdiv ((crG (M 23) 0 1 : Nat) : Int))) 1 ((crJ (M 23) 0 1).tdiv ((crG (M 23) 0 1 : Nat) : Int))) 2 ((crK (M 23) 0 1).tdiv ((crG (M 23) 0 1 : Nat) : Int)))) 22 2 ((crI (M 23) 0 1).tdiv ((crG (M 23) 0 1 : Nat) : Int)) ((crJ (M 23) 0 1).tdiv ((crG (M 23) 0 1 : Nat) : Int)) ((crK (M 23) 0 1).tdiv ((crG (M 23) 0 1 : Nat) : Int)) (show pl 22 from Or.inr (Or.inr rfl)) (show 2 < 3 from by decide)) mf_X1_times ml_X3_91 (pl_cell (Or.inr (Or.inr rfl)) _) rfl (by decide) rfl rfl (Nat.le_of_ble_eq_true rfl) dX3_partsAll_54 (fun z_54 M_54 hp_54 => ?_)
      rw [hp_54.1, hp_54.2]
      refine ww_top (b := dotZ ((ups M 24 (up1 (up1 (up1 (M 24) 0 ((crI (M 23) 0 1).tdiv ((crG (M 23) 0 1 : Nat) : Int))) 1 ((crJ (M 23) 0 1).tdiv ((crG (M 23) 0 1 : Nat) : Int))) 2 ((crK (M 23) 0 1).tdiv ((crG (M 23) 0 1 : Nat) : Int)))) (22 + 1)) 2 ((crI (M 23) 0 1).tdiv ((crG (M 23) 0 1 : Nat) : Int)) ((crJ (M 23) 0 1).tdiv ((crG (M 23) 0 1 : Nat) : Int)) ((crK (M 23) 0 1).tdiv ((crG (M 23) 0 1 : Nat) : Int))) rfl ?_
      refine ww_if_eq C 64 dX3_partsAll_57 (by decide) (hdo.2) (fun c_57 => ?_) (fun c_57 => ?_)
      · refine ww_iconst C dX3_partsAll_64 ?_
        exact RT _ _ _ _ dX3_partsAll_65 (by first | exact ⟨Or.inr rfl, ⟨fun _ h8 => (hck1.mp h8) (Or.inl c_28), fun _ => rfl⟩, _, hab, rfl⟩ | exact ⟨Or.inr rfl, ⟨fun _ h8 => (hck1.mp h8) (Or.inr c_57), fun _ => rfl⟩, _, hab, rfl⟩ | exact ⟨Or.inl rfl, ⟨fun h9 => by omega, fun h9 => absurd (hck1.mpr (fun h8 => h8.elim c_28 (fun h7 => h7 c_57))) h9⟩, _, hab, rfl⟩)
      · refine ww_iconst C dX3_partsAll_60 ?_
        refine ww_goto C 65 dX3_partsAll_61 (by decide) ?_
        exact RT _ _ _ _ dX3_partsAll_65 (by first | exact ⟨Or.inr rfl, ⟨fun _ h8 => (hck1.mp h8) (Or.inl c_28), fun _ => rfl⟩, _, hab, rfl⟩ | exact ⟨Or.inr rfl, ⟨fun _ h8 => (hck1.mp h8) (Or.inr c_57), fun _ => rfl⟩, _, hab, rfl⟩ | exact ⟨Or.inl rfl, ⟨fun h9 => by omega, fun h9 => absurd (hck1.mpr (fun h8 => h8.elim c_28 (fun h7 => h7 c_57))) h9⟩, _, hab, rfl⟩)
  · have hx_3 : crG (M 23) 0 1 = 0 ∧ M_3 = M := by rcases hp_3 with e9 | e9; (exfalso; omega); exact ⟨e9.1, e9.2.2⟩
    clear hp_3
    refine ww_mem (M1 := M) hx_3.2 ?_
    have hck1 := hck.2.2 hx_3.1
    rw [← hnp9, ← hcl] at hck1
    refine ww_iload_n C dX3_partsAll_9 2 rfl ?_
    refine ww_aload_n C dX3_partsAll_10 1 rfl ?_
    refine gt_X3_83 C dX3_partsAll_11 ?_
    refine ww_top (b := ((np : Nat) : Int)) (hnp) ?_
    refine ww_icmp_ne C 21 dX3_partsAll_14 (by decide) (by omega) (by omega) (fun c_14 => ?_) (fun c_14 => ?_)
    · refine ww_iconst C dX3_partsAll_21 ?_
      exact RT _ _ _ _ dX3_partsAll_22 (by first | exact ⟨Or.inr rfl, ⟨fun _ h8 => hck1.mp h8 c_14, fun _ => rfl⟩, M 24, ha, ups_id.symm⟩ | exact ⟨Or.inl rfl, ⟨fun h9 => by omega, fun h9 => absurd (hck1.mpr c_14) h9⟩, M 24, ha, ups_id.symm⟩)
    · refine ww_iconst C dX3_partsAll_17 ?_
      refine ww_goto C 22 dX3_partsAll_18 (by decide) ?_
      exact RT _ _ _ _ dX3_partsAll_22 (by first | exact ⟨Or.inr rfl, ⟨fun _ h8 => hck1.mp h8 c_14, fun _ => rfl⟩, M 24, ha, ups_id.symm⟩ | exact ⟨Or.inl rfl, ⟨fun h9 => by omega, fun h9 => absurd (hck1.mpr c_14) h9⟩, M 24, ha, ups_id.symm⟩)
