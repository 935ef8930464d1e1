set_option maxRecDepth 100000 in
set_option maxHeartbeats 4000000 in
theorem ct_X6_why (w : WLD) (M : Mem) (nv : Nat) (x : Int) (hx : R32 x) (hnv : M 30 1 = (nv : Int)) (hn4 : nv ≤ 4) (hs : SzOk (M 31)) (hst : StOk (M 32)) (hnu : NuOk (M 37)) (hf : 1 ≤ M 30 8 ∧ M 30 8 ≤ 8) : CtI w yX6_why cX6_why 5 (some .int) rm_X6_why [.ref (wa w 30), .int (iZ x)] M (fun z M1 => whyR (M 37) (M 31) (M 32) (M 30 8) nv x z ∧ M1 = M) := by
  refine CtI.of (by decide) (Nat.le_of_ble_eq_true rfl) rfl rfl ?_
  intro k hkL C RT
  obtain ⟨la, ea, hme⟩ := metR_ex (sz := M 31) (K := keyZ (M 37) (M 31) (M 30 8)) (B := beatZ (M 37) (M 31) (M 30 8)) 512
  have hml := met_la hnu hs hf.1 hf.2 hme
  show WW w k 0 [(0, .ref (wa w 30)), (1, .int (iZ x))] [] M
  refine ww_iload_n C dX6_why_0 1 rfl ?_
  refine ww_iconst C dX6_why_1 ?_
  refine ww_iconst C dX6_why_2 ?_
  refine ww_callS C (As := [.int (iZ x), .int (iZ 0), .int (iZ 2)]) (ct_X6_in w M x 0 2 (by omega) (by omega) (by omega)) mf_X6_in ml_X6_54 (by decide) rfl rfl (Nat.le_of_ble_eq_true rfl) dX6_why_3 (fun z_3 M_3 hp_3 => ?_)
  rw [hp_3.1, hp_3.2]
  refine ww_ifb_ne C 11 dX6_why_6 (by decide) (fun c_6 => ?_) (fun c_6 => ?_)
  · refine ww_aload_n C dX6_why_11 0 rfl ?_
    refine ww_callV C (As := []) 30 (by decide) (ct_X6_wrongDelay w M nv (hnv) (by omega) (hs) (hst) (hnu)) mf_X6_wrongDelay ml_X6_95 rfl rfl (by decide) rfl rfl (Nat.le_of_ble_eq_true rfl) dX6_why_12 (fun z_12 M_12 hp_12 => ?_)
    obtain ⟨hf_12, hm_12⟩ := hp_12
    have r12 := isFst_R (by omega) hf_12
    refine ww_mem (M1 := M) (hm_12) ?_
    refine ww_istore_n C dX6_why_15 (lv' := [(2, .int (iZ z_12)), (0, .ref (wa w 30)), (1, .int (iZ x))]) (by rw [hkL]; decide) rfl ?_
    refine ww_aload_n C dX6_why_16 1 rfl ?_
    refine ww_callV C (As := []) 30 (by decide) (ct_X6_wrongWay w M nv (hnv) (by omega) (hs) (hst) (hnu)) mf_X6_wrongWay ml_X6_99 rfl rfl (by decide) rfl rfl (Nat.le_of_ble_eq_true rfl) dX6_why_17 (fun z_17 M_17 hp_17 => ?_)
    obtain ⟨hf_17, hm_17⟩ := hp_17
    have r17 := isFst_R (by omega) hf_17
    refine ww_mem (M1 := M) (hm_17) ?_
    refine ww_istore_n C dX6_why_20 (lv' := [(3, .int (iZ z_17)), (2, .int (iZ z_12)), (0, .ref (wa w 30)), (1, .int (iZ x))]) (by rw [hkL]; decide) rfl ?_
    refine ww_iload_n C dX6_why_21 1 rfl ?_
    refine ww_if_ge C 29 dX6_why_22 (by decide) (by omega) (fun c_22 => ?_) (fun c_22 => ?_)
    · refine ww_iload_n C dX6_why_29 3 rfl ?_
      refine ww_if_ne C 45 dX6_why_30 (by decide) (by omega) (fun c_30 => ?_) (fun c_30 => ?_)
      · refine ww_iload_n C dX6_why_45 3 rfl ?_
        refine ww_iconst C dX6_why_46 ?_
        refine ww_icmp_ne C 62 dX6_why_47 (by decide) (by omega) (by omega) (fun c_47 => ?_) (fun c_47 => ?_)
        · refine ww_iconst C dX6_why_62 ?_
          exact RT _ _ _ _ dX6_why_63 (⟨⟨z_12, z_17, la, ea, hf_12, hf_17, hme, by unfold whyF; split <;> (try split) <;> (try split) <;> omega⟩, rfl⟩)
        · refine ww_iload_n C dX6_why_50 1 rfl ?_
          refine ww_if_lt C 58 dX6_why_51 (by decide) (by omega) (fun c_51 => ?_) (fun c_51 => ?_)
          · refine ww_iload_n C dX6_why_58 0 rfl ?_
            refine ww_goto C 63 dX6_why_59 (by decide) ?_
            exact RT _ _ _ _ dX6_why_63 (⟨⟨z_12, z_17, la, ea, hf_12, hf_17, hme, by unfold whyF; split <;> (try split) <;> (try split) <;> omega⟩, rfl⟩)
          · refine ww_iload_n C dX6_why_54 1 rfl ?_
            refine ww_goto C 63 dX6_why_55 (by decide) ?_
            exact RT _ _ _ _ dX6_why_63 (⟨⟨z_12, z_17, la, ea, hf_12, hf_17, hme, by unfold whyF; split <;> (try split) <;> (try split) <;> omega⟩, rfl⟩)
      · refine ww_iload_n C dX6_why_33 1 rfl ?_
        refine ww_if_lt C 41 dX6_why_34 (by decide) (by omega) (fun c_34 => ?_) (fun c_34 => ?_)
        · refine ww_iconst C dX6_why_41 ?_
          refine ww_goto C 63 dX6_why_42 (by decide) ?_
          exact RT _ _ _ _ dX6_why_63 (⟨⟨z_12, z_17, la, ea, hf_12, hf_17, hme, by unfold whyF; split <;> (try split) <;> (try split) <;> omega⟩, rfl⟩)
        · refine ww_iconst C dX6_why_37 ?_
          refine ww_goto C 63 dX6_why_38 (by decide) ?_
          exact RT _ _ _ _ dX6_why_63 (⟨⟨z_12, z_17, la, ea, hf_12, hf_17, hme, by unfold whyF; split <;> (try split) <;> (try split) <;> omega⟩, rfl⟩)
    · refine ww_iload_n C dX6_why_25 0 rfl ?_
      refine ww_if_lt C 64 dX6_why_26 (by decide) (by omega) (fun c_26 => ?_) (fun c_26 => ?_)
      · refine ww_aload_n C dX6_why_64 2 rfl ?_
        refine ww_callV C (As := []) 30 (by decide) (ct_X6_meets w M (hs) (hnu)) mf_X6_meets ml_X6_102 rfl rfl (by decide) rfl rfl (Nat.le_of_ble_eq_true rfl) dX6_why_65 (fun z_65 M_65 hp_65 => ?_)
        obtain ⟨hz_65, hmz_65, hm_65⟩ := hp_65
        refine ww_mem (M1 := M) (hm_65) ?_
        refine ww_if_ne C 81 dX6_why_68 (by decide) (by omega) (fun c_68 => ?_) (fun c_68 => ?_)
        · refine ww_iload_n C dX6_why_81 3 rfl ?_
          refine ww_if_ne C 87 dX6_why_82 (by decide) (by omega) (fun c_82 => ?_) (fun c_82 => ?_)
          · refine ww_iconst C dX6_why_87 ?_
            refine ww_istore C dX6_why_88 (lv' := [(4, .int (iZ 0)), (3, .int (iZ z_17)), (2, .int (iZ z_12)), (0, .ref (wa w 30)), (1, .int (iZ x))]) (by rw [hkL]; decide) rfl ?_
            have L_90 : ∀ (fuel : Nat) (t : Nat) (ht : t ≤ 512) (hno : ∀ u : Nat, u < t → isP (M 31) u → ∀ q : Nat, q < u → ¬ saP (M 37) (M 31) q u), 512 - t < fuel → WW w k 90 [(0, .ref (wa w 30)), (1, .int (iZ x)), (4, .int (iZ ((t : Nat) : Int)))] [] M := by
              intro fuel
              induction fuel with
              | zero => intro t ht hno hf_90; exact absurd hf_90 (Nat.not_lt_zero _)
              | succ fuel ih_90 =>
                intro t ht hno hf_90
                refine ww_iload C dX6_why_90 2 rfl ?_
                refine ww_sipush C dX6_why_92 (by decide) ?_
                refine ww_icmp_ge C 139 dX6_why_95 (by decide) (by omega) (by omega) (fun c_95 => ?_) (fun c_95 => ?_)
                · refine ww_iconst C dX6_why_139 ?_
                  exact RT _ _ _ _ dX6_why_140 (by exfalso; obtain ⟨p9, q9, a1, a2, a3, a4⟩ := (met_iff hs).mp (hmz_65.mp (by omega)); exact hno p9 (by have := isP_lt hs a3; omega) a3 q9 a1 ⟨a2, a4⟩)
                · refine ww_aload_n C dX6_why_98 0 rfl ?_
                  refine ww_iload C dX6_why_99 2 rfl ?_
                  refine ww_callV C (As := [.int (iZ ((t : Nat) : Int))]) 30 (by decide) (ct_X6_isPointNumber w M t (by omega) (hs)) mf_X6_isPointNumber ml_X6_106 rfl rfl (by decide) rfl rfl (Nat.le_of_ble_eq_true rfl) dX6_why_101 (fun z_101 M_101 hp_101 => ?_)
                  rw [hp_101.1, hp_101.2]
                  refine ww_ifb_eq C 133 dX6_why_104 (by decide) (fun c_104 => ?_) (fun c_104 => ?_)
                  · refine ww_iinc2 C dX6_why_133 2 rfl (b := ((t + 1 : Nat) : Int)) (by omega) (lv' := [(4, .int (iZ ((t + 1 : Nat) : Int))), (0, .ref (wa w 30)), (1, .int (iZ x))]) (by rw [hkL]; decide) rfl ?_
                    refine ww_goto C 90 dX6_why_136 (by decide) ?_
                    refine ww_sub [1, 2, 0] rfl ?_
                    exact ih_90 (t + 1) (by omega) (fun u h9 h8 => by rcases Nat.lt_succ_iff_lt_or_eq.mp h9 with h7 | h7; exact hno u h7 h8; (rw [h7] at h8 ⊢; first | exact absurd h8 c_104 | exact (isFst_neg hf_110).mp (by omega))) (by omega)
                  · refine ww_aload_n C dX6_why_107 0 rfl ?_
                    refine ww_iload C dX6_why_108 2 rfl ?_
                    refine ww_callV C (As := [.int (iZ ((t : Nat) : Int))]) 30 (by decide) (ct_X6_sameAs w M t (hs) (hnu) (c_104)) mf_X6_sameAs ml_X6_109 rfl rfl (by decide) rfl rfl (Nat.le_of_ble_eq_true rfl) dX6_why_110 (fun z_110 M_110 hp_110 => ?_)
                    obtain ⟨hf_110, hm_110⟩ := hp_110
                    have r110 := isFst_R (by omega) hf_110
                    refine ww_mem (M1 := M) (hm_110) ?_
                    refine ww_if_lt C 133 dX6_why_113 (by decide) (by omega) (fun c_113 => ?_) (fun c_113 => ?_)
                    · refine ww_iinc2 C dX6_why_133 2 rfl (b := ((t + 1 : Nat) : Int)) (by omega) (lv' := [(4, .int (iZ ((t + 1 : Nat) : Int))), (0, .ref (wa w 30)), (1, .int (iZ x))]) (by rw [hkL]; decide) rfl ?_
                      refine ww_goto C 90 dX6_why_136 (by decide) ?_
                      refine ww_sub [1, 2, 0] rfl ?_
                      exact ih_90 (t + 1) (by omega) (fun u h9 h8 => by rcases Nat.lt_succ_iff_lt_or_eq.mp h9 with h7 | h7; exact hno u h7 h8; (rw [h7] at h8 ⊢; first | exact absurd h8 c_104 | exact (isFst_neg hf_110).mp (by omega))) (by omega)
                    · refine ww_iload_n C dX6_why_116 1 rfl ?_
                      refine ww_iconst C dX6_why_117 ?_
                      refine ww_icmp_ne C 126 dX6_why_118 (by decide) (by omega) (by omega) (fun c_118 => ?_) (fun c_118 => ?_)
                      · refine ww_aload_n C dX6_why_126 0 rfl ?_
                        refine ww_iload C dX6_why_127 2 rfl ?_
                        refine ww_callV C (As := [.int (iZ ((t : Nat) : Int))]) 30 (by decide) (ct_X6_sameAs w M t (hs) (hnu) (c_104)) mf_X6_sameAs ml_X6_109 rfl rfl (by decide) rfl rfl (Nat.le_of_ble_eq_true rfl) dX6_why_129 (fun z_129 M_129 hp_129 => ?_)
                        obtain ⟨hf_129, hm_129⟩ := hp_129
                        have q129 := isFst_un hf_110 hf_129
                        have r129 := isFst_R (by omega) hf_129
                        refine ww_mem (M1 := M) (hm_129) ?_
                        exact RT _ _ _ _ dX6_why_132 (⟨⟨z_12, z_17, (t : Int), z_110, hf_12, hf_17, met_fst hnu hs hf.1 hf.2 c_104 hno hf_110 (by omega), by unfold whyF; split <;> (try split) <;> (try split) <;> omega⟩, rfl⟩)
                      · refine ww_iload C dX6_why_121 2 rfl ?_
                        refine ww_goto C 132 dX6_why_123 (by decide) ?_
                        exact RT _ _ _ _ dX6_why_132 (⟨⟨z_12, z_17, (t : Int), z_110, hf_12, hf_17, met_fst hnu hs hf.1 hf.2 c_104 hno hf_110 (by omega), by unfold whyF; split <;> (try split) <;> (try split) <;> omega⟩, rfl⟩)
            refine ww_sub [3, 4, 0] rfl ?_
            exact L_90 _ 0 (by omega) (fun u h9 => absurd h9 (Nat.not_lt_zero _)) (Nat.lt_succ_self _)
          · refine ww_iconst C dX6_why_85 ?_
            exact RT _ _ _ _ dX6_why_86 (⟨⟨z_12, z_17, la, ea, hf_12, hf_17, hme, by have e8 : la ≠ -1 := hml.mpr (hmz_65.mp (by omega)); unfold whyF; rw [if_pos (by omega), if_neg (by omega), if_neg (by omega), if_neg (by omega)]⟩, rfl⟩)
        · refine ww_iload_n C dX6_why_71 3 rfl ?_
          refine ww_if_ne C 79 dX6_why_72 (by decide) (by omega) (fun c_72 => ?_) (fun c_72 => ?_)
          · refine ww_iconst C dX6_why_79 ?_
            exact RT _ _ _ _ dX6_why_80 (⟨⟨z_12, z_17, la, ea, hf_12, hf_17, hme, by have e8 : la = -1 := Classical.byContradiction (fun h8 => by have e9 := hmz_65.mpr (hml.mp h8); omega); have e7 : ea = -1 := met_m1 hme e8; unfold whyF; split <;> (try split) <;> (try split) <;> omega⟩, rfl⟩)
          · refine ww_iconst C dX6_why_75 ?_
            refine ww_goto C 80 dX6_why_76 (by decide) ?_
            exact RT _ _ _ _ dX6_why_80 (⟨⟨z_12, z_17, la, ea, hf_12, hf_17, hme, by have e8 : la = -1 := Classical.byContradiction (fun h8 => by have e9 := hmz_65.mpr (hml.mp h8); omega); have e7 : ea = -1 := met_m1 hme e8; unfold whyF; split <;> (try split) <;> (try split) <;> omega⟩, rfl⟩)
      · refine ww_iload_n C dX6_why_29 3 rfl ?_
        refine ww_if_ne C 45 dX6_why_30 (by decide) (by omega) (fun c_30 => ?_) (fun c_30 => ?_)
        · refine ww_iload_n C dX6_why_45 3 rfl ?_
          refine ww_iconst C dX6_why_46 ?_
          refine ww_icmp_ne C 62 dX6_why_47 (by decide) (by omega) (by omega) (fun c_47 => ?_) (fun c_47 => ?_)
          · refine ww_iconst C dX6_why_62 ?_
            exact RT _ _ _ _ dX6_why_63 (⟨⟨z_12, z_17, la, ea, hf_12, hf_17, hme, by unfold whyF; split <;> (try split) <;> (try split) <;> omega⟩, rfl⟩)
          · refine ww_iload_n C dX6_why_50 1 rfl ?_
            refine ww_if_lt C 58 dX6_why_51 (by decide) (by omega) (fun c_51 => ?_) (fun c_51 => ?_)
            · refine ww_iload_n C dX6_why_58 0 rfl ?_
              refine ww_goto C 63 dX6_why_59 (by decide) ?_
              exact RT _ _ _ _ dX6_why_63 (⟨⟨z_12, z_17, la, ea, hf_12, hf_17, hme, by unfold whyF; split <;> (try split) <;> (try split) <;> omega⟩, rfl⟩)
            · refine ww_iload_n C dX6_why_54 1 rfl ?_
              refine ww_goto C 63 dX6_why_55 (by decide) ?_
              exact RT _ _ _ _ dX6_why_63 (⟨⟨z_12, z_17, la, ea, hf_12, hf_17, hme, by unfold whyF; split <;> (try split) <;> (try split) <;> omega⟩, rfl⟩)
        · refine ww_iload_n C dX6_why_33 1 rfl ?_
          refine ww_if_lt C 41 dX6_why_34 (by decide) (by omega) (fun c_34 => ?_) (fun c_34 => ?_)
          · refine ww_iconst C dX6_why_41 ?_
            refine ww_goto C 63 dX6_why_42 (by decide) ?_
            exact RT _ _ _ _ dX6_why_63 (⟨⟨z_12, z_17, la, ea, hf_12, hf_17, hme, by unfold whyF; split <;> (try split) <;> (try split) <;> omega⟩, rfl⟩)
          · refine ww_iconst C dX6_why_37 ?_
            refine ww_goto C 63 dX6_why_38 (by decide) ?_
            exact RT _ _ _ _ dX6_why_63 (⟨⟨z_12, z_17, la, ea, hf_12, hf_17, hme, by unfold whyF; split <;> (try split) <;> (try split) <;> omega⟩, rfl⟩)
  · refine ww_iconst C dX6_why_9 ?_
    exact RT _ _ _ _ dX6_why_10 (by obtain ⟨e9, he9⟩ := isFst_ex (earP (M 37) (M 31) (M 32)) nv; obtain ⟨f9, hf9⟩ := isFst_ex (farP (M 37) (M 31) (M 32)) nv; exact ⟨⟨e9, f9, la, ea, he9, hf9, hme, by unfold whyF; rw [if_neg (by omega), if_neg (by omega), if_neg (by omega)]⟩, rfl⟩)
set_option maxRecDepth 100000 in
set_option maxHeartbeats 4000000 in
theorem ct_X6_laid (w : WLD) (M : Mem) (x : Int) (hx : R32 x) (hs : SzOk (M 31)) (hnu : NuOk (M 37)) (hf : 1 ≤ M 30 8 ∧ M 30 8 ≤ 8) (h40 : ∀ j : Nat, 4096 ≤ j → M 40 j = 0) (h41 : ∀ j : Nat, 1024 ≤ j → M 41 j = 0) : CtI w yX6_laid cX6_laid 2 (some .int) rm_X6_laid [.ref (wa w 30), .int (iZ x)] M (fun z M1 => lddR (M 37) (M 31) (M 30 8) x z ∧ ∃ ic ia : Nat → Int, (∀ j : Nat, 4096 ≤ j → ic j = 0) ∧ (∀ j : Nat, 1024 ≤ j → ia j = 0) ∧ M1 = ups (ups M 40 ic) 41 ia) := by
  refine CtI.of (by decide) (Nat.le_of_ble_eq_true rfl) rfl rfl ?_
  intro k hkL C RT
  have hbb : ∀ p : Nat, isP (M 31) p → 0 ≤ beatZ (M 37) (M 31) (M 30 8) p ∧ beatZ (M 37) (M 31) (M 30 8) p < 512 := fun p h9 => beatZ_b hnu hs hf.1 hf.2 h9
  have hdp := dif_pos (sz := M 31) (K := keyZ (M 37) (M 31) (M 30 8)) hs
  have hdb := dif_b (M 31) (keyZ (M 37) (M 31) (M 30 8)) 512
  have hm3 := mul3 hs.1 hs.2.1 hs.2.2
  show WW w k 0 [(0, .ref (wa w 30)), (1, .int (iZ x))] [] M
  refine ww_iload_n C dX6_laid_0 1 rfl ?_
  rcases Classical.em (0 ≤ x ∧ x ≤ 3) with ht_1 | ht_1
  · rcases (show x = 0 ∨ x = 1 ∨ x = 2 ∨ x = 3 by omega) with ht_1 | ht_1 | ht_1 | ht_1
    · refine ww_tabIn C 32 0 dX6_laid_1 ht_1 (by decide) (by decide) rfl (by decide) ?_
      refine ww_aload_n C dX6_laid_32 0 rfl ?_
      refine ww_callV C (As := []) 30 (by decide) (ct_X6_beats w M (hs) (hnu) (hf)) mf_X6_beats ml_X6_121 rfl rfl (by decide) rfl rfl (Nat.le_of_ble_eq_true rfl) dX6_laid_33 (fun z_33 M_33 hp_33 => ?_)
      obtain ⟨hbe_33, hm_33⟩ := hp_33
      refine ww_mem (M1 := M) (hm_33) ?_
      exact RT _ _ _ _ dX6_laid_36 (⟨Or.inl ⟨ht_1, hbe_33⟩, M 40, M 41, h40, h41, by rw [ups_id, ups_id]⟩)
    · refine ww_tabIn C 37 1 dX6_laid_1 ht_1 (by decide) (by decide) rfl (by decide) ?_
      refine ww_aload_n C dX6_laid_37 0 rfl ?_
      refine ww_callV C (As := []) 30 (by decide) (ct_X6_cells w M (hs) (hnu) (hf) (h40)) mf_X6_cells ml_X6_124 rfl rfl (by decide) rfl rfl (Nat.le_of_ble_eq_true rfl) dX6_laid_38 (fun z_38 M_38 hp_38 => ?_)
      obtain ⟨hz_38, ic_38, hic_38, hm_38⟩ := hp_38
      exact RT _ _ _ _ dX6_laid_41 (⟨Or.inr (Or.inl ⟨ht_1, hz_38⟩), ic_38, M 41, hic_38, h41, by rw [hm_38]; exact (ups_id (M := ups M 40 ic_38) (h := 41)).symm⟩)
    · refine ww_tabIn C 42 2 dX6_laid_1 ht_1 (by decide) (by decide) rfl (by decide) ?_
      refine ww_sipush C dX6_laid_42 (by decide) ?_
      refine ww_aload_n C dX6_laid_45 0 rfl ?_
      refine ww_callV C (As := []) 30 (by decide) (ct_X6_points w M ) mf_X6_points ml_X6_127 rfl rfl (by decide) rfl rfl (Nat.le_of_ble_eq_true rfl) dX6_laid_46 (fun z_46 M_46 hp_46 => ?_)
      rw [hp_46.1, hp_46.2]
      refine ww_imul C dX6_laid_49 ?_
      refine ww_aload_n C dX6_laid_50 0 rfl ?_
      refine ww_callV C (As := []) 30 (by decide) (ct_X6_beats w M (hs) (hnu) (hf)) mf_X6_beats ml_X6_121 rfl rfl (by decide) rfl rfl (Nat.le_of_ble_eq_true rfl) dX6_laid_51 (fun z_51 M_51 hp_51 => ?_)
      obtain ⟨hbe_51, hm_51⟩ := hp_51
      have hb51 := bea_b hs hbb hbe_51
      refine ww_mem (M1 := M) (hm_51) ?_
      refine ww_aload_n C dX6_laid_54 0 rfl ?_
      refine ww_callV C (As := []) 30 (by decide) (ct_X6_cells w M (hs) (hnu) (hf) (h40)) mf_X6_cells ml_X6_124 rfl rfl (by decide) rfl rfl (Nat.le_of_ble_eq_true rfl) dX6_laid_55 (fun z_55 M_55 hp_55 => ?_)
      obtain ⟨hz_55, ic_55, hic_55, hm_55⟩ := hp_55
      have hm9 : 1 * 1 ≤ z_51 * z_55 := Int.mul_le_mul hb51.1 (by omega) (by omega) (by omega)
      have hm8 : z_51 * z_55 ≤ 512 * 512 := Int.mul_le_mul hb51.2 (by omega) (by omega) (by omega)
      refine ww_imul C dX6_laid_58 ?_
      refine ww_idivN C dX6_laid_59 (by omega) (by omega) ?_
      exact RT _ _ _ _ dX6_laid_60 (⟨Or.inr (Or.inr (Or.inl ⟨ht_1, z_51, hbe_51, by rw [hz_55]⟩)), ic_55, M 41, hic_55, h41, by rw [hm_55]; exact (ups_id (M := ups M 40 ic_55) (h := 41)).symm⟩)
    · refine ww_tabIn C 61 3 dX6_laid_1 ht_1 (by decide) (by decide) rfl (by decide) ?_
      refine ww_aload_n C dX6_laid_61 0 rfl ?_
      refine ww_callV C (As := []) 30 (by decide) (ct_X6_apart w M (hs) (hnu) (hf) (h41)) mf_X6_apart ml_X6_130 rfl rfl (by decide) rfl rfl (Nat.le_of_ble_eq_true rfl) dX6_laid_62 (fun z_62 M_62 hp_62 => ?_)
      obtain ⟨hap_62, ia_62, hia_62, hm_62⟩ := hp_62
      exact RT _ _ _ _ dX6_laid_65 (⟨Or.inr (Or.inr (Or.inr (Or.inl ⟨ht_1, hap_62⟩))), M 40, ia_62, h40, hia_62, by rw [hm_62, ups_id]⟩)
  · refine ww_tabOut C 66 dX6_laid_1 (by omega) (by omega) (by decide) ?_
    refine ww_iconst C dX6_laid_66 ?_
    exact RT _ _ _ _ dX6_laid_67 (⟨Or.inr (Or.inr (Or.inr (Or.inr ⟨ht_1, rfl⟩))), M 40, M 41, h40, h41, by rw [ups_id, ups_id]⟩)
set_option maxRecDepth 100000 in
set_option maxHeartbeats 4000000 in
theorem ct_X6_where (w : WLD) (M : Mem) (i j l x : Int) (h1 : R32 i) (h2 : R32 j) (h3 : R32 l) (hx : R32 x) (hs : SzOk (M 31)) (hnu : NuOk (M 37)) (hf : 1 ≤ M 30 8 ∧ M 30 8 ≤ 8) : CtI w yX6_where cX6_where 6 (some .int) rm_X6_where [.ref (wa w 30), .int (iZ i), .int (iZ j), .int (iZ l), .int (iZ x)] M (fun z M1 => z = wheZ (M 37) (M 31) (M 30 8) i j l x ∧ M1 = M) := by
  refine CtI.of (by decide) (Nat.le_of_ble_eq_true rfl) rfl rfl ?_
  intro k hkL C RT
  show WW w k 0 [(0, .ref (wa w 30)), (1, .int (iZ i)), (2, .int (iZ j)), (3, .int (iZ l)), (4, .int (iZ x))] [] M
  refine ww_aload_n C dX6_where_0 0 rfl ?_
  refine ww_iload_n C dX6_where_1 1 rfl ?_
  refine ww_iload_n C dX6_where_2 2 rfl ?_
  refine ww_iload_n C dX6_where_3 3 rfl ?_
  refine ww_callV C (As := [.int (iZ i), .int (iZ j), .int (iZ l)]) 30 (by decide) (ct_X6_isPoint w M i j l (by omega) (by omega) (by omega) (hs)) mf_X6_isPoint ml_X6_61 rfl rfl (by decide) rfl rfl (Nat.le_of_ble_eq_true rfl) dX6_where_4 (fun z_4 M_4 hp_4 => ?_)
  rw [hp_4.1, hp_4.2]
  refine ww_ifb_ne C 12 dX6_where_7 (by decide) (fun c_7 => ?_) (fun c_7 => ?_)
  · have hpp : isP (M 31) (64 * i + 8 * j + l).toNat := pt_isP hs c_7
    have hp5 := isP_lt hs hpp
    refine ww_bipush C dX6_where_12 (by decide) ?_
    refine ww_iload_n C dX6_where_14 1 rfl ?_
    refine ww_imul C dX6_where_15 ?_
    refine ww_bipush C dX6_where_16 (by decide) ?_
    refine ww_iload_n C dX6_where_18 2 rfl ?_
    refine ww_imul C dX6_where_19 ?_
    refine ww_iadd C dX6_where_20 ?_
    refine ww_iload_n C dX6_where_21 3 rfl ?_
    refine ww_iadd C dX6_where_22 ?_
    refine ww_top (b := (((64 * i + 8 * j + l).toNat : Nat) : Int)) (by omega) ?_
    refine ww_istore C dX6_where_23 (lv' := [(5, .int (iZ (((64 * i + 8 * j + l).toNat : Nat) : Int))), (0, .ref (wa w 30)), (1, .int (iZ i)), (2, .int (iZ j)), (3, .int (iZ l)), (4, .int (iZ x))]) (by rw [hkL]; decide) rfl ?_
    refine ww_iload C dX6_where_25 5 rfl ?_
    refine ww_if_ne C 39 dX6_where_27 (by decide) (by omega) (fun c_27 => ?_) (fun c_27 => ?_)
    · refine ww_iload C dX6_where_39 5 rfl ?_
      refine ww_iconst C dX6_where_41 ?_
      refine ww_icmp_ne C 54 dX6_where_42 (by decide) (by omega) (by omega) (fun c_42 => ?_) (fun c_42 => ?_)
      · refine ww_iload C dX6_where_54 5 rfl ?_
        refine ww_iconst C dX6_where_56 ?_
        refine ww_icmp_ne C 70 dX6_where_57 (by decide) (by omega) (by omega) (fun c_57 => ?_) (fun c_57 => ?_)
        · refine ww_iconst C dX6_where_70 ?_
          exact RT _ _ _ _ dX6_where_71 (⟨by unfold wheZ; split <;> (try split) <;> (try split) <;> (try split) <;> first | rfl | omega | contradiction, rfl⟩)
        · refine ww_aload_n C dX6_where_60 1 rfl ?_
          refine ww_iconst C dX6_where_61 ?_
          refine ww_iload C dX6_where_62 0 rfl ?_
          refine ww_callV C (As := [.int (iZ 2), .int (iZ (((64 * i + 8 * j + l).toNat : Nat) : Int))]) 30 (by decide) (ct_X6_at w M 2 ((64 * i + 8 * j + l).toNat) (by omega) (by omega) (hnu) (hs)) mf_X6_at ml_X6_75 rfl rfl (by decide) rfl rfl (Nat.le_of_ble_eq_true rfl) dX6_where_64 (fun z_64 M_64 hp_64 => ?_)
          rw [hp_64.1, hp_64.2]
          refine ww_goto C 71 dX6_where_67 (by decide) ?_
          exact RT _ _ _ _ dX6_where_71 (⟨by unfold wheZ; split <;> (try split) <;> (try split) <;> (try split) <;> first | rfl | omega | contradiction, rfl⟩)
      · refine ww_aload_n C dX6_where_45 1 rfl ?_
        refine ww_iload C dX6_where_46 0 rfl ?_
        refine ww_callV C (As := [.int (iZ (((64 * i + 8 * j + l).toNat : Nat) : Int))]) 30 (by decide) (ct_X6_cellOf w M ((64 * i + 8 * j + l).toNat) (hnu) (hs) (hf) (hpp)) mf_X6_cellOf ml_X6_115 rfl rfl (by decide) rfl rfl (Nat.le_of_ble_eq_true rfl) dX6_where_48 (fun z_48 M_48 hp_48 => ?_)
        rw [hp_48.1, hp_48.2]
        refine ww_goto C 71 dX6_where_51 (by decide) ?_
        exact RT _ _ _ _ dX6_where_71 (⟨by unfold wheZ; split <;> (try split) <;> (try split) <;> (try split) <;> first | rfl | omega | contradiction, rfl⟩)
    · refine ww_aload_n C dX6_where_30 1 rfl ?_
      refine ww_iload C dX6_where_31 0 rfl ?_
      refine ww_callV C (As := [.int (iZ (((64 * i + 8 * j + l).toNat : Nat) : Int))]) 30 (by decide) (ct_X6_beatOf w M ((64 * i + 8 * j + l).toNat) (hnu) (hs) (hf) (hpp)) mf_X6_beatOf ml_X6_112 rfl rfl (by decide) rfl rfl (Nat.le_of_ble_eq_true rfl) dX6_where_33 (fun z_33 M_33 hp_33 => ?_)
      rw [hp_33.1, hp_33.2]
      refine ww_goto C 71 dX6_where_36 (by decide) ?_
      exact RT _ _ _ _ dX6_where_71 (⟨by unfold wheZ; split <;> (try split) <;> (try split) <;> (try split) <;> first | rfl | omega | contradiction, rfl⟩)
  · refine ww_iconst C dX6_where_10 ?_
    exact RT _ _ _ _ dX6_where_11 (⟨by unfold wheZ; split <;> (try split) <;> (try split) <;> (try split) <;> first | rfl | omega | contradiction, rfl⟩)
set_option maxRecDepth 100000 in
set_option maxHeartbeats 4000000 in
theorem ct_X6_needs (w : WLD) (M : Mem) (v x : Int) (h1 : R32 v) (hx : R32 x) (h2 : 0 ≤ M 30 1 ∧ M 30 1 ≤ 4) (hs : SzOk (M 31)) (hst : StOk (M 32)) (hnu : NuOk (M 37)) : CtI w yX6_needs cX6_needs 3 (some .int) rm_X6_needs [.ref (wa w 30), .int (iZ v), .int (iZ x)] M (fun z M1 => z = nedZ (M 37) (M 31) (M 32) (M 30 1) v x ∧ M1 = M) := by
  refine CtI.of (by decide) (Nat.le_of_ble_eq_true rfl) rfl rfl ?_
  intro k hkL C RT
  show WW w k 0 [(0, .ref (wa w 30)), (1, .int (iZ v)), (2, .int (iZ x))] [] M
  refine ww_aload_n C dX6_needs_0 0 rfl ?_
  refine ww_iload_n C dX6_needs_1 1 rfl ?_
  refine ww_callV C (As := [.int (iZ v)]) 30 (by decide) (ct_X6_isVariable w M v (by omega) (by omega)) mf_X6_isVariable ml_X6_71 rfl rfl (by decide) rfl rfl (Nat.le_of_ble_eq_true rfl) dX6_needs_2 (fun z_2 M_2 hp_2 => ?_)
  rw [hp_2.1, hp_2.2]
  refine ww_ifb_ne C 12 dX6_needs_5 (by decide) (fun c_5 => ?_) (fun c_5 => ?_)
  · refine ww_iload_n C dX6_needs_12 2 rfl ?_
    refine ww_if_ne C 24 dX6_needs_13 (by decide) (by omega) (fun c_13 => ?_) (fun c_13 => ?_)
    · refine ww_iload_n C dX6_needs_24 2 rfl ?_
      refine ww_iconst C dX6_needs_25 ?_
      refine ww_icmp_ne C 37 dX6_needs_26 (by decide) (by omega) (by omega) (fun c_26 => ?_) (fun c_26 => ?_)
      · refine ww_iload_n C dX6_needs_37 2 rfl ?_
        refine ww_iconst C dX6_needs_38 ?_
        refine ww_icmp_ne C 58 dX6_needs_39 (by decide) (by omega) (by omega) (fun c_39 => ?_) (fun c_39 => ?_)
        · refine ww_sipush C dX6_needs_58 (by decide) ?_
          exact RT _ _ _ _ dX6_needs_61 (⟨by unfold nedZ; split <;> (try split) <;> (try split) <;> (try split) <;> (try split) <;> first | rfl | omega | contradiction, rfl⟩)
        · refine ww_aload_n C dX6_needs_42 0 rfl ?_
          refine ww_iload_n C dX6_needs_43 1 rfl ?_
          refine ww_top (b := ((v.toNat : Nat) : Int)) (by omega) ?_
          refine ww_callV C (As := [.int (iZ ((v.toNat : Nat) : Int))]) 30 (by decide) (ct_X6_isNeeded w M v.toNat (by omega) (hs) (hst)) mf_X6_isNeeded ml_X6_86 rfl rfl (by decide) rfl rfl (Nat.le_of_ble_eq_true rfl) dX6_needs_44 (fun z_44 M_44 hp_44 => ?_)
          rw [hp_44.1, hp_44.2]
          refine ww_ifb_eq C 54 dX6_needs_47 (by decide) (fun c_47 => ?_) (fun c_47 => ?_)
          · refine ww_iconst C dX6_needs_54 ?_
            refine ww_goto C 61 dX6_needs_55 (by decide) ?_
            exact RT _ _ _ _ dX6_needs_61 (⟨by unfold nedZ; split <;> (try split) <;> (try split) <;> (try split) <;> (try split) <;> first | rfl | omega | contradiction, rfl⟩)
          · refine ww_iconst C dX6_needs_50 ?_
            refine ww_goto C 61 dX6_needs_51 (by decide) ?_
            exact RT _ _ _ _ dX6_needs_61 (⟨by unfold nedZ; split <;> (try split) <;> (try split) <;> (try split) <;> (try split) <;> first | rfl | omega | contradiction, rfl⟩)
      · refine ww_aload_n C dX6_needs_29 0 rfl ?_
        refine ww_iload_n C dX6_needs_30 1 rfl ?_
        refine ww_top (b := ((v.toNat : Nat) : Int)) (by omega) ?_
        refine ww_callV C (As := [.int (iZ ((v.toNat : Nat) : Int))]) 30 (by decide) (ct_X6_wayOf w M v.toNat (by omega) (hnu) (hst)) mf_X6_wayOf ml_X6_92 rfl rfl (by decide) rfl rfl (Nat.le_of_ble_eq_true rfl) dX6_needs_31 (fun z_31 M_31 hp_31 => ?_)
        rw [hp_31.1, hp_31.2]
        refine ww_goto C 61 dX6_needs_34 (by decide) ?_
        exact RT _ _ _ _ dX6_needs_61 (⟨by unfold nedZ; split <;> (try split) <;> (try split) <;> (try split) <;> (try split) <;> first | rfl | omega | contradiction, rfl⟩)
    · refine ww_aload_n C dX6_needs_16 0 rfl ?_
      refine ww_iload_n C dX6_needs_17 1 rfl ?_
      refine ww_top (b := ((v.toNat : Nat) : Int)) (by omega) ?_
      refine ww_callV C (As := [.int (iZ ((v.toNat : Nat) : Int))]) 30 (by decide) (ct_X6_delayOf w M v.toNat (by omega)) mf_X6_delayOf ml_X6_89 rfl rfl (by decide) rfl rfl (Nat.le_of_ble_eq_true rfl) dX6_needs_18 (fun z_18 M_18 hp_18 => ?_)
      rw [hp_18.1, hp_18.2]
      refine ww_goto C 61 dX6_needs_21 (by decide) ?_
      exact RT _ _ _ _ dX6_needs_61 (⟨by unfold nedZ; split <;> (try split) <;> (try split) <;> (try split) <;> (try split) <;> first | rfl | omega | contradiction, rfl⟩)
  · refine ww_sipush C dX6_needs_8 (by decide) ?_
    exact RT _ _ _ _ dX6_needs_11 (⟨by unfold nedZ; split <;> (try split) <;> (try split) <;> (try split) <;> (try split) <;> first | rfl | omega | contradiction, rfl⟩)
set_option maxRecDepth 100000 in
set_option maxHeartbeats 4000000 in
theorem ct_X6_laying (w : WLD) (M : Mem) (q x : Int) (h1 : R32 q) (h2 : R32 x) : CtI w yX6_laying cX6_laying 3 (some .int) rm_X6_laying [.ref (wa w 30), .int (iZ q), .int (iZ x)] M (fun z M1 => z = (if (0 ≤ q ∧ q ≤ 2) ∧ (0 ≤ x ∧ x ≤ 2) then M 37 (3 * q + x).toNat else -1000) ∧ M1 = M) := by
  refine CtI.of (by decide) (Nat.le_of_ble_eq_true rfl) rfl rfl ?_
  intro k hkL C RT
  show WW w k 0 [(0, .ref (wa w 30)), (1, .int (iZ q)), (2, .int (iZ x))] [] M
  refine ww_iload_n C dX6_laying_0 1 rfl ?_
  refine ww_iconst C dX6_laying_1 ?_
  refine ww_iconst C dX6_laying_2 ?_
  refine ww_callS C (As := [.int (iZ q), .int (iZ 0), .int (iZ 2)]) (ct_X6_in w M q 0 2 (by omega) (by omega) (by omega)) mf_X6_in ml_X6_54 (by decide) rfl rfl (Nat.le_of_ble_eq_true rfl) dX6_laying_3 (fun z_3 M_3 hp_3 => ?_)
  rw [hp_3.1, hp_3.2]
  refine ww_ifb_eq C 31 dX6_laying_6 (by decide) (fun c_6 => ?_) (fun c_6 => ?_)
  · refine ww_sipush C dX6_laying_31 (by decide) ?_
    exact RT _ _ _ _ dX6_laying_34 (⟨by first | exact (if_pos (by omega)).symm | exact (if_neg (by omega)).symm, rfl⟩)
  · refine ww_iload_n C dX6_laying_9 2 rfl ?_
    refine ww_iconst C dX6_laying_10 ?_
    refine ww_iconst C dX6_laying_11 ?_
    refine ww_callS C (As := [.int (iZ x), .int (iZ 0), .int (iZ 2)]) (ct_X6_in w M x 0 2 (by omega) (by omega) (by omega)) mf_X6_in ml_X6_54 (by decide) rfl rfl (Nat.le_of_ble_eq_true rfl) dX6_laying_12 (fun z_12 M_12 hp_12 => ?_)
    rw [hp_12.1, hp_12.2]
    refine ww_ifb_eq C 31 dX6_laying_15 (by decide) (fun c_15 => ?_) (fun c_15 => ?_)
    · refine ww_sipush C dX6_laying_31 (by decide) ?_
      exact RT _ _ _ _ dX6_laying_34 (⟨by first | exact (if_pos (by omega)).symm | exact (if_neg (by omega)).symm, rfl⟩)
    · refine ww_aload_n C dX6_laying_18 0 rfl ?_
      refine gt_X6_28 C dX6_laying_19 ?_
      refine ww_iconst C dX6_laying_22 ?_
      refine ww_iload_n C dX6_laying_23 1 rfl ?_
      refine ww_imul C dX6_laying_24 ?_
      refine ww_iload_n C dX6_laying_25 2 rfl ?_
      refine ww_iadd C dX6_laying_26 ?_
      refine al_37 C ((3 * q + x).toNat) (z := M 37 ((3 * q + x).toNat)) (by omega) (by omega) rfl dX6_laying_27 ?_
      refine ww_goto C 34 dX6_laying_28 (by decide) ?_
      exact RT _ _ _ _ dX6_laying_34 (⟨by first | exact (if_pos (by omega)).symm | exact (if_neg (by omega)).symm, rfl⟩)
set_option maxRecDepth 100000 in
set_option maxHeartbeats 4000000 in
theorem ct_X6_made (w : WLD) (M : Mem) (act own a b : Int) (ha : 0 ≤ act ∧ act ≤ 7) (h1 : R32 own) (h2 : R32 a) (h3 : R32 b) : CtI w yX6_made cX6_made 4 (some .int) rm_X6_made [.int (iZ act), .int (iZ own), .int (iZ a), .int (iZ b)] M (fun z M1 => z = madeZ act own a b ∧ M1 = M) := by
  refine CtI.of (by decide) (Nat.le_of_ble_eq_true rfl) rfl rfl ?_
  intro k hkL C RT
  have q2 := nrm_R (a + b)
  show WW w k 0 [(0, .int (iZ act)), (1, .int (iZ own)), (2, .int (iZ a)), (3, .int (iZ b))] [] M
  refine ww_iload_n C dX6_made_0 0 rfl ?_
  rcases Classical.em (0 ≤ act ∧ act ≤ 6) with ht_1 | ht_1
  · rcases (show act = 0 ∨ act = 1 ∨ act = 2 ∨ act = 3 ∨ act = 4 ∨ act = 5 ∨ act = 6 by omega) with ht_1 | ht_1 | ht_1 | ht_1 | ht_1 | ht_1 | ht_1
    · refine ww_tabIn C 44 0 dX6_made_1 ht_1 (by decide) (by decide) rfl (by decide) ?_
      refine ww_iload_n C dX6_made_44 1 rfl ?_
      exact RT _ _ _ _ dX6_made_45 (⟨by unfold madeZ; simp [*]; try omega, rfl⟩)
    · refine ww_tabIn C 46 1 dX6_made_1 ht_1 (by decide) (by decide) rfl (by decide) ?_
      refine ww_iload_n C dX6_made_46 1 rfl ?_
      refine ww_iload_n C dX6_made_47 2 rfl ?_
      refine ww_iload_n C dX6_made_48 3 rfl ?_
      refine ww_imul C dX6_made_49 ?_
      refine ww_iadd C dX6_made_50 ?_
      refine ww_topI (b := nrm (own + a * b)) ((iZ_nrm _).symm) ?_
      exact RT _ _ _ _ dX6_made_51 (⟨by unfold madeZ; simp [*]; try omega, rfl⟩)
    · refine ww_tabIn C 52 2 dX6_made_1 ht_1 (by decide) (by decide) rfl (by decide) ?_
      refine ww_iload_n C dX6_made_52 1 rfl ?_
      refine ww_iload_n C dX6_made_53 2 rfl ?_
      refine ww_iload_n C dX6_made_54 3 rfl ?_
      refine ww_iadd C dX6_made_55 ?_
      refine ww_topI (b := nrm (a + b)) ((iZ_nrm _).symm) ?_
      refine ww_icmp_ge C 63 dX6_made_56 (by decide) (by omega) (by omega) (fun c_56 => ?_) (fun c_56 => ?_)
      · refine ww_iload_n C dX6_made_63 2 rfl ?_
        refine ww_iload_n C dX6_made_64 3 rfl ?_
        refine ww_iadd C dX6_made_65 ?_
        refine ww_topI (b := nrm (a + b)) ((iZ_nrm _).symm) ?_
        exact RT _ _ _ _ dX6_made_66 (⟨by unfold madeZ; simp [*]; try omega, rfl⟩)
      · refine ww_iload_n C dX6_made_59 1 rfl ?_
        refine ww_goto C 66 dX6_made_60 (by decide) ?_
        exact RT _ _ _ _ dX6_made_66 (⟨by unfold madeZ; simp [*]; try omega, rfl⟩)
    · refine ww_tabIn C 67 3 dX6_made_1 ht_1 (by decide) (by decide) rfl (by decide) ?_
      refine ww_iload_n C dX6_made_67 2 rfl ?_
      refine ww_iload_n C dX6_made_68 3 rfl ?_
      refine ww_icmp_ge C 76 dX6_made_69 (by decide) (by omega) (by omega) (fun c_69 => ?_) (fun c_69 => ?_)
      · refine ww_iload_n C dX6_made_76 3 rfl ?_
        exact RT _ _ _ _ dX6_made_77 (⟨by unfold madeZ; simp [*]; try omega, rfl⟩)
      · refine ww_iload_n C dX6_made_72 2 rfl ?_
        refine ww_goto C 77 dX6_made_73 (by decide) ?_
        exact RT _ _ _ _ dX6_made_77 (⟨by unfold madeZ; simp [*]; try omega, rfl⟩)
    · refine ww_tabIn C 78 4 dX6_made_1 ht_1 (by decide) (by decide) rfl (by decide) ?_
      refine ww_iload_n C dX6_made_78 2 rfl ?_
      refine ww_iload_n C dX6_made_79 3 rfl ?_
      refine ww_icmp_le C 87 dX6_made_80 (by decide) (by omega) (by omega) (fun c_80 => ?_) (fun c_80 => ?_)
      · refine ww_iload_n C dX6_made_87 3 rfl ?_
        exact RT _ _ _ _ dX6_made_88 (⟨by unfold madeZ; simp [*]; try omega, rfl⟩)
      · refine ww_iload_n C dX6_made_83 2 rfl ?_
        refine ww_goto C 88 dX6_made_84 (by decide) ?_
        exact RT _ _ _ _ dX6_made_88 (⟨by unfold madeZ; simp [*]; try omega, rfl⟩)
    · refine ww_tabIn C 89 5 dX6_made_1 ht_1 (by decide) (by decide) rfl (by decide) ?_
      refine ww_iload_n C dX6_made_89 2 rfl ?_
      refine ww_iload_n C dX6_made_90 3 rfl ?_
      refine ww_iadd C dX6_made_91 ?_
      refine ww_topI (b := nrm (a + b)) ((iZ_nrm _).symm) ?_
      exact RT _ _ _ _ dX6_made_92 (⟨by unfold madeZ; simp [*]; try omega, rfl⟩)
    · refine ww_tabIn C 93 6 dX6_made_1 ht_1 (by decide) (by decide) rfl (by decide) ?_
      refine ww_iload_n C dX6_made_93 2 rfl ?_
      refine ww_iload_n C dX6_made_94 3 rfl ?_
      refine ww_isub C dX6_made_95 ?_
      refine ww_topI (b := nrm (a - b)) ((iZ_nrm _).symm) ?_
      exact RT _ _ _ _ dX6_made_96 (⟨by unfold madeZ; simp [*]; try omega, rfl⟩)
  · refine ww_tabOut C 97 dX6_made_1 (by omega) (by omega) (by decide) ?_
    refine ww_iload_n C dX6_made_97 2 rfl ?_
    refine ww_iload_n C dX6_made_98 3 rfl ?_
    refine ww_ixor C dX6_made_99 ?_
    exact RT _ _ _ _ dX6_made_100 (⟨by unfold madeZ; rw [if_neg (by omega), if_neg (by omega), if_neg (by omega), if_neg (by omega), if_neg (by omega), if_neg (by omega), if_pos (by omega)], rfl⟩)
set_option maxRecDepth 100000 in
set_option maxHeartbeats 4000000 in
theorem ct_X6_comes_38 (w : WLD) (M : Mem) (v p : Nat) (hv : v < 4) (hp : p < 512) (hs : SzOk (M 31)) (hst : StOk (M 32)) : CtI w yX6_comes cX6_comes 5 (some .int) rm_X6_comes [.ref (wa w 30), .ref (wa w 38), .int (iZ ((v : Nat) : Int)), .int (iZ ((p : Nat) : Int))] M (fun z M1 => z = comeZ (M 31) (M 32) (M 36) (M 38) v p ∧ M1 = M) := by
  refine CtI.of (by decide) (Nat.le_of_ble_eq_true rfl) rfl rfl ?_
  intro k hkL C RT
  have hb := stepZ_b (sz := M 31) (st := M 32) (v := v) (p := p) (sg := -1) hs
  show WW w k 0 [(0, .ref (wa w 30)), (1, .ref (wa w 38)), (2, .int (iZ ((v : Nat) : Int))), (3, .int (iZ ((p : Nat) : Int)))] [] M
  refine ww_aload_n C dX6_comes_0 0 rfl ?_
  refine ww_iload_n C dX6_comes_1 2 rfl ?_
  refine ww_iload_n C dX6_comes_2 3 rfl ?_
  refine ww_callV C (As := [.int (iZ ((v : Nat) : Int)), .int (iZ ((p : Nat) : Int))]) 30 (by decide) (ct_X6_ahead w M v p (by omega) (by omega) (hs) (hst)) mf_X6_ahead ml_X6_139 rfl rfl (by decide) rfl rfl (Nat.le_of_ble_eq_true rfl) dX6_comes_3 (fun z_3 M_3 hp_3 => ?_)
  rw [hp_3.1, hp_3.2]
  refine ww_istore C dX6_comes_6 (lv' := [(4, .int (iZ (stepZ ((M 31)) ((M 32)) v p (-1)))), (0, .ref (wa w 30)), (1, .ref (wa w 38)), (2, .int (iZ ((v : Nat) : Int))), (3, .int (iZ ((p : Nat) : Int)))]) (by rw [hkL]; decide) rfl ?_
  refine ww_iload C dX6_comes_8 0 rfl ?_
  refine ww_if_ge C 28 dX6_comes_10 (by decide) (by omega) (fun c_10 => ?_) (fun c_10 => ?_)
  · refine ww_aload_n C dX6_comes_28 2 rfl ?_
    refine ww_sipush C dX6_comes_29 (by decide) ?_
    refine ww_iload_n C dX6_comes_32 3 rfl ?_
    refine ww_imul C dX6_comes_33 ?_
    refine ww_iload C dX6_comes_34 0 rfl ?_
    refine ww_iadd C dX6_comes_36 ?_
    refine al_38 C (512 * v + (stepZ (M 31) (M 32) v p (-1)).toNat) (z := M 38 (512 * v + (stepZ (M 31) (M 32) v p (-1)).toNat)) (by omega) (by omega) rfl dX6_comes_37 ?_
    exact RT _ _ _ _ dX6_comes_38 (⟨by unfold comeZ; first | exact (if_pos (by omega)).symm | exact (if_neg (by omega)).symm, rfl⟩)
  · refine ww_aload_n C dX6_comes_13 1 rfl ?_
    refine gt_X6_25 C dX6_comes_14 ?_
    refine ww_sipush C dX6_comes_17 (by decide) ?_
    refine ww_iload_n C dX6_comes_20 3 rfl ?_
    refine ww_imul C dX6_comes_21 ?_
    refine ww_iload_n C dX6_comes_22 4 rfl ?_
    refine ww_iadd C dX6_comes_23 ?_
    refine al_36 C (512 * v + p) (z := M 36 (512 * v + p)) (by omega) (by omega) rfl dX6_comes_24 ?_
    refine ww_goto C 38 dX6_comes_25 (by decide) ?_
    exact RT _ _ _ _ dX6_comes_38 (⟨by unfold comeZ; first | exact (if_pos (by omega)).symm | exact (if_neg (by omega)).symm, rfl⟩)
set_option maxRecDepth 100000 in
set_option maxHeartbeats 4000000 in
theorem ct_X6_work_38 (w : WLD) (M : Mem) (nv p : Nat) (hp : p < 512) (hnv : M 30 1 = (nv : Int)) (hn4 : nv ≤ 4) (hs : SzOk (M 31)) (hst : StOk (M 32)) (hac : ∀ v : Nat, v < nv → 0 ≤ M 33 v ∧ M 33 v ≤ 7) (hlf : ∀ v : Nat, v < nv → 0 ≤ M 34 v ∧ M 34 v < nv) (hrt : ∀ v : Nat, v < nv → 0 ≤ M 35 v ∧ M 35 v < nv) (hed : ∀ q : Nat, R32 (M 36 q)) (har : ∀ q : Nat, R32 (M 38 q)) : CtV w yX6_work cX6_work 7 rm_X6_work [.ref (wa w 30), .ref (wa w 38), .int (iZ ((p : Nat) : Int))] M (fun M1 => M1 = ups M 38 (wkA (M 31) (M 32) (M 33) (M 34) (M 35) (M 36) (M 38) p nv)) := by
  refine CtV.of (by decide) (Nat.le_of_ble_eq_true rfl) rfl rfl ?_
  intro k hkL C RT
  show WW w k 0 [(0, .ref (wa w 30)), (1, .ref (wa w 38)), (2, .int (iZ ((p : Nat) : Int)))] [] M
  refine ww_iconst C dX6_work_0 ?_
  refine ww_istore_n C dX6_work_1 (lv' := [(3, .int (iZ 0)), (0, .ref (wa w 30)), (1, .ref (wa w 38)), (2, .int (iZ ((p : Nat) : Int)))]) (by rw [hkL]; decide) rfl ?_
  have L_2 : ∀ (fuel : Nat) (t : Nat) (ht : t ≤ nv), nv - t < fuel → WW w k 2 [(0, .ref (wa w 30)), (1, .ref (wa w 38)), (2, .int (iZ ((p : Nat) : Int))), (3, .int (iZ ((t : Nat) : Int)))] [] (ups M 38 (wkA (M 31) (M 32) (M 33) (M 34) (M 35) (M 36) (M 38) p t)) := by
    intro fuel
    induction fuel with
    | zero => intro t ht hf_2; exact absurd hf_2 (Nat.not_lt_zero _)
    | succ fuel ih_2 =>
      intro t ht hf_2
      have har2 : ∀ q : Nat, R32 (wkA (M 31) (M 32) (M 33) (M 34) (M 35) (M 36) (M 38) p t q) := wkA_R hed har t
      have hc : ∀ v : Nat, R32 (comeZ (M 31) (M 32) (M 36) (wkA (M 31) (M 32) (M 33) (M 34) (M 35) (M 36) (M 38) p t) v p) := fun v => comeZ_R hed har2
      have hlf1 := hlf t
      have hrt1 := hrt t
      have hac1 := hac t
      refine ww_iload_n C dX6_work_2 3 rfl ?_
      refine ww_aload_n C dX6_work_3 0 rfl ?_
      refine gt_X6_58 C dX6_work_4 ?_
      refine ww_top (b := ((nv : Nat) : Int)) (hnv) ?_
      refine ww_icmp_ge C 77 dX6_work_7 (by decide) (by omega) (by omega) (fun c_7 => ?_) (fun c_7 => ?_)
      · exact RT _ _ _ dX6_work_77 (by rw [show t = nv by omega])
      · refine ww_aload_n C dX6_work_10 0 rfl ?_
        refine ww_aload_n C dX6_work_11 1 rfl ?_
        refine ww_iload_n C dX6_work_12 3 rfl ?_
        refine ww_iload_n C dX6_work_13 2 rfl ?_
        refine ww_callV C (As := [.ref (wa w 38), .int (iZ ((t : Nat) : Int)), .int (iZ ((p : Nat) : Int))]) 30 (by decide) (ct_X6_comes_38 w (ups M 38 (wkA (M 31) (M 32) (M 33) (M 34) (M 35) (M 36) (M 38) p t)) t p (show t < 4 from by omega) (show p < 512 from by omega) (show SzOk ((M 31)) from hs) (show StOk ((M 32)) from hst)) mf_X6_comes ml_X6_142 rfl rfl (by decide) rfl rfl (Nat.le_of_ble_eq_true rfl) dX6_work_14 (fun z_14 M_14 hp_14 => ?_)
        rw [hp_14.1, hp_14.2]
        refine ww_top (b := comeZ ((M 31)) ((M 32)) ((M 36)) ((wkA (M 31) (M 32) (M 33) (M 34) (M 35) (M 36) (M 38) p t)) t p) rfl ?_
        refine ww_istore C dX6_work_17 (lv' := [(4, .int (iZ (comeZ ((M 31)) ((M 32)) ((M 36)) ((wkA (M 31) (M 32) (M 33) (M 34) (M 35) (M 36) (M 38) p t)) t p))), (0, .ref (wa w 30)), (1, .ref (wa w 38)), (2, .int (iZ ((p : Nat) : Int))), (3, .int (iZ ((t : Nat) : Int)))]) (by rw [hkL]; decide) rfl ?_
        refine ww_aload_n C dX6_work_19 1 rfl ?_
        refine ww_aload_n C dX6_work_20 2 rfl ?_
        refine ww_aload_n C dX6_work_21 1 rfl ?_
        refine gt_X6_19 C dX6_work_22 ?_
        refine ww_iload_n C dX6_work_25 4 rfl ?_
        refine al_34 C t (z := (((M 34 t).toNat : Nat) : Int)) rfl (by omega) (show M 34 t = _ from by have := hlf1 (by omega); omega) dX6_work_26 ?_
        refine ww_iload_n C dX6_work_27 3 rfl ?_
        refine ww_callV C (As := [.ref (wa w 38), .int (iZ (((M 34 t).toNat : Nat) : Int)), .int (iZ ((p : Nat) : Int))]) 30 (by decide) (ct_X6_comes_38 w (ups M 38 (wkA (M 31) (M 32) (M 33) (M 34) (M 35) (M 36) (M 38) p t)) ((M 34 t).toNat) p (show ((M 34 t).toNat) < 4 from by have := hlf1 (by omega); omega) (show p < 512 from by omega) (show SzOk ((M 31)) from hs) (show StOk ((M 32)) from hst)) mf_X6_comes ml_X6_142 rfl rfl (by decide) rfl rfl (Nat.le_of_ble_eq_true rfl) dX6_work_28 (fun z_28 M_28 hp_28 => ?_)
        rw [hp_28.1, hp_28.2]
        refine ww_top (b := comeZ ((M 31)) ((M 32)) ((M 36)) ((wkA (M 31) (M 32) (M 33) (M 34) (M 35) (M 36) (M 38) p t)) ((M 34 t).toNat) p) rfl ?_
        refine ww_istore C dX6_work_31 (lv' := [(5, .int (iZ (comeZ ((M 31)) ((M 32)) ((M 36)) ((wkA (M 31) (M 32) (M 33) (M 34) (M 35) (M 36) (M 38) p t)) ((M 34 t).toNat) p))), (4, .int (iZ (comeZ ((M 31)) ((M 32)) ((M 36)) ((wkA (M 31) (M 32) (M 33) (M 34) (M 35) (M 36) (M 38) p t)) t p))), (0, .ref (wa w 30)), (1, .ref (wa w 38)), (2, .int (iZ ((p : Nat) : Int))), (3, .int (iZ ((t : Nat) : Int)))]) (by rw [hkL]; decide) rfl ?_
        refine ww_aload_n C dX6_work_33 2 rfl ?_
        refine ww_aload_n C dX6_work_34 3 rfl ?_
        refine ww_aload_n C dX6_work_35 2 rfl ?_
        refine gt_X6_22 C dX6_work_36 ?_
        refine ww_iload_n C dX6_work_39 5 rfl ?_
        refine al_35 C t (z := (((M 35 t).toNat : Nat) : Int)) rfl (by omega) (show M 35 t = _ from by have := hrt1 (by omega); omega) dX6_work_40 ?_
        refine ww_iload_n C dX6_work_41 4 rfl ?_
        refine ww_callV C (As := [.ref (wa w 38), .int (iZ (((M 35 t).toNat : Nat) : Int)), .int (iZ ((p : Nat) : Int))]) 30 (by decide) (ct_X6_comes_38 w (ups M 38 (wkA (M 31) (M 32) (M 33) (M 34) (M 35) (M 36) (M 38) p t)) ((M 35 t).toNat) p (show ((M 35 t).toNat) < 4 from by have := hrt1 (by omega); omega) (show p < 512 from by omega) (show SzOk ((M 31)) from hs) (show StOk ((M 32)) from hst)) mf_X6_comes ml_X6_142 rfl rfl (by decide) rfl rfl (Nat.le_of_ble_eq_true rfl) dX6_work_42 (fun z_42 M_42 hp_42 => ?_)
        rw [hp_42.1, hp_42.2]
        refine ww_top (b := comeZ ((M 31)) ((M 32)) ((M 36)) ((wkA (M 31) (M 32) (M 33) (M 34) (M 35) (M 36) (M 38) p t)) ((M 35 t).toNat) p) rfl ?_
        refine ww_istore C dX6_work_45 (lv' := [(6, .int (iZ (comeZ ((M 31)) ((M 32)) ((M 36)) ((wkA (M 31) (M 32) (M 33) (M 34) (M 35) (M 36) (M 38) p t)) ((M 35 t).toNat) p))), (5, .int (iZ (comeZ ((M 31)) ((M 32)) ((M 36)) ((wkA (M 31) (M 32) (M 33) (M 34) (M 35) (M 36) (M 38) p t)) ((M 34 t).toNat) p))), (4, .int (iZ (comeZ ((M 31)) ((M 32)) ((M 36)) ((wkA (M 31) (M 32) (M 33) (M 34) (M 35) (M 36) (M 38) p t)) t p))), (0, .ref (wa w 30)), (1, .ref (wa w 38)), (2, .int (iZ ((p : Nat) : Int))), (3, .int (iZ ((t : Nat) : Int)))]) (by rw [hkL]; decide) rfl ?_
        refine ww_aload_n C dX6_work_47 4 rfl ?_
        refine ww_sipush C dX6_work_48 (by decide) ?_
        refine ww_iload_n C dX6_work_51 6 rfl ?_
        refine ww_imul C dX6_work_52 ?_
        refine ww_iload_n C dX6_work_53 5 rfl ?_
        refine ww_iadd C dX6_work_54 ?_
        refine ww_aload_n C dX6_work_55 3 rfl ?_
        refine gt_X6_16 C dX6_work_56 ?_
        refine ww_iload_n C dX6_work_59 6 rfl ?_
        refine al_33 C t (z := M 33 t) rfl (by omega) rfl dX6_work_60 ?_
        refine ww_iload C dX6_work_61 2 rfl ?_
        refine ww_iload C dX6_work_63 1 rfl ?_
        refine ww_iload C dX6_work_65 0 rfl ?_
        refine ww_callS C (As := [.int (iZ (M 33 t)), .int (iZ (comeZ ((M 31)) ((M 32)) ((M 36)) ((wkA (M 31) (M 32) (M 33) (M 34) (M 35) (M 36) (M 38) p t)) t p)), .int (iZ (comeZ ((M 31)) ((M 32)) ((M 36)) ((wkA (M 31) (M 32) (M 33) (M 34) (M 35) (M 36) (M 38) p t)) ((M 34 t).toNat) p)), .int (iZ (comeZ ((M 31)) ((M 32)) ((M 36)) ((wkA (M 31) (M 32) (M 33) (M 34) (M 35) (M 36) (M 38) p t)) ((M 35 t).toNat) p))]) (ct_X6_made w (ups M 38 (wkA (M 31) (M 32) (M 33) (M 34) (M 35) (M 36) (M 38) p t)) (M 33 t) (comeZ ((M 31)) ((M 32)) ((M 36)) ((wkA (M 31) (M 32) (M 33) (M 34) (M 35) (M 36) (M 38) p t)) t p) (comeZ ((M 31)) ((M 32)) ((M 36)) ((wkA (M 31) (M 32) (M 33) (M 34) (M 35) (M 36) (M 38) p t)) ((M 34 t).toNat) p) (comeZ ((M 31)) ((M 32)) ((M 36)) ((wkA (M 31) (M 32) (M 33) (M 34) (M 35) (M 36) (M 38) p t)) ((M 35 t).toNat) p) (show 0 ≤ (M 33 t) ∧ (M 33 t) ≤ 7 from hac1 (by omega)) (show R32 (comeZ ((M 31)) ((M 32)) ((M 36)) ((wkA (M 31) (M 32) (M 33) (M 34) (M 35) (M 36) (M 38) p t)) t p) from hc _) (show R32 (comeZ ((M 31)) ((M 32)) ((M 36)) ((wkA (M 31) (M 32) (M 33) (M 34) (M 35) (M 36) (M 38) p t)) ((M 34 t).toNat) p) from hc _) (show R32 (comeZ ((M 31)) ((M 32)) ((M 36)) ((wkA (M 31) (M 32) (M 33) (M 34) (M 35) (M 36) (M 38) p t)) ((M 35 t).toNat) p) from hc _)) mf_X6_made ml_X6_146 (by decide) rfl rfl (Nat.le_of_ble_eq_true rfl) dX6_work_67 (fun z_67 M_67 hp_67 => ?_)
        rw [hp_67.1, hp_67.2]
        refine ww_top (b := madeZ (M 33 t) (comeZ ((M 31)) ((M 32)) ((M 36)) ((wkA (M 31) (M 32) (M 33) (M 34) (M 35) (M 36) (M 38) p t)) t p) (comeZ ((M 31)) ((M 32)) ((M 36)) ((wkA (M 31) (M 32) (M 33) (M 34) (M 35) (M 36) (M 38) p t)) ((M 34 t).toNat) p) (comeZ ((M 31)) ((M 32)) ((M 36)) ((wkA (M 31) (M 32) (M 33) (M 34) (M 35) (M 36) (M 38) p t)) ((M 35 t).toNat) p)) rfl ?_
        refine as_38 C (512 * t + p) (by omega) (by omega) dX6_work_70 ?_
        refine ww_mem (M1 := ups M 38 (wkA (M 31) (M 32) (M 33) (M 34) (M 35) (M 36) (M 38) p (t + 1))) (by rw [ups_ups]; rfl) ?_
        refine ww_iinc2 C dX6_work_71 6 rfl (b := ((t + 1 : Nat) : Int)) (by omega) (lv' := [(3, .int (iZ ((t + 1 : Nat) : Int))), (6, .int (iZ (comeZ ((M 31)) ((M 32)) ((M 36)) ((wkA (M 31) (M 32) (M 33) (M 34) (M 35) (M 36) (M 38) p t)) ((M 35 t).toNat) p))), (5, .int (iZ (comeZ ((M 31)) ((M 32)) ((M 36)) ((wkA (M 31) (M 32) (M 33) (M 34) (M 35) (M 36) (M 38) p t)) ((M 34 t).toNat) p))), (4, .int (iZ (comeZ ((M 31)) ((M 32)) ((M 36)) ((wkA (M 31) (M 32) (M 33) (M 34) (M 35) (M 36) (M 38) p t)) t p))), (0, .ref (wa w 30)), (1, .ref (wa w 38)), (2, .int (iZ ((p : Nat) : Int)))]) (by rw [hkL]; decide) rfl ?_
        refine ww_goto C 2 dX6_work_74 (by decide) ?_
        refine ww_sub [4, 5, 6, 0] rfl ?_
        exact ih_2 (t + 1) (by omega) (by omega)
  refine ww_sub [1, 2, 3, 0] rfl ?_
  refine ww_mem (M1 := ups M 38 (wkA (M 31) (M 32) (M 33) (M 34) (M 35) (M 36) (M 38) p 0)) ((ups_id (M := M)).symm) ?_
  exact L_2 _ 0 (by omega) (Nat.lt_succ_self _)
set_option maxRecDepth 100000 in
set_option maxHeartbeats 4000000 in
theorem ct_X6_comes_39 (w : WLD) (M : Mem) (v p : Nat) (hv : v < 4) (hp : p < 512) (hs : SzOk (M 31)) (hst : StOk (M 32)) : CtI w yX6_comes cX6_comes 5 (some .int) rm_X6_comes [.ref (wa w 30), .ref (wa w 39), .int (iZ ((v : Nat) : Int)), .int (iZ ((p : Nat) : Int))] M (fun z M1 => z = comeZ (M 31) (M 32) (M 36) (M 39) v p ∧ M1 = M) := by
  refine CtI.of (by decide) (Nat.le_of_ble_eq_true rfl) rfl rfl ?_
  intro k hkL C RT
  have hb := stepZ_b (sz := M 31) (st := M 32) (v := v) (p := p) (sg := -1) hs
  show WW w k 0 [(0, .ref (wa w 30)), (1, .ref (wa w 39)), (2, .int (iZ ((v : Nat) : Int))), (3, .int (iZ ((p : Nat) : Int)))] [] M
  refine ww_aload_n C dX6_comes_0 0 rfl ?_
  refine ww_iload_n C dX6_comes_1 2 rfl ?_
  refine ww_iload_n C dX6_comes_2 3 rfl ?_
  refine ww_callV C (As := [.int (iZ ((v : Nat) : Int)), .int (iZ ((p : Nat) : Int))]) 30 (by decide) (ct_X6_ahead w M v p (by omega) (by omega) (hs) (hst)) mf_X6_ahead ml_X6_139 rfl rfl (by decide) rfl rfl (Nat.le_of_ble_eq_true rfl) dX6_comes_3 (fun z_3 M_3 hp_3 => ?_)
  rw [hp_3.1, hp_3.2]
  refine ww_istore C dX6_comes_6 (lv' := [(4, .int (iZ (stepZ ((M 31)) ((M 32)) v p (-1)))), (0, .ref (wa w 30)), (1, .ref (wa w 39)), (2, .int (iZ ((v : Nat) : Int))), (3, .int (iZ ((p : Nat) : Int)))]) (by rw [hkL]; decide) rfl ?_
  refine ww_iload C dX6_comes_8 0 rfl ?_
  refine ww_if_ge C 28 dX6_comes_10 (by decide) (by omega) (fun c_10 => ?_) (fun c_10 => ?_)
  · refine ww_aload_n C dX6_comes_28 2 rfl ?_
    refine ww_sipush C dX6_comes_29 (by decide) ?_
    refine ww_iload_n C dX6_comes_32 3 rfl ?_
    refine ww_imul C dX6_comes_33 ?_
    refine ww_iload C dX6_comes_34 0 rfl ?_
    refine ww_iadd C dX6_comes_36 ?_
    refine al_39 C (512 * v + (stepZ (M 31) (M 32) v p (-1)).toNat) (z := M 39 (512 * v + (stepZ (M 31) (M 32) v p (-1)).toNat)) (by omega) (by omega) rfl dX6_comes_37 ?_
    exact RT _ _ _ _ dX6_comes_38 (⟨by unfold comeZ; first | exact (if_pos (by omega)).symm | exact (if_neg (by omega)).symm, rfl⟩)
  · refine ww_aload_n C dX6_comes_13 1 rfl ?_
    refine gt_X6_25 C dX6_comes_14 ?_
    refine ww_sipush C dX6_comes_17 (by decide) ?_
    refine ww_iload_n C dX6_comes_20 3 rfl ?_
    refine ww_imul C dX6_comes_21 ?_
    refine ww_iload_n C dX6_comes_22 4 rfl ?_
    refine ww_iadd C dX6_comes_23 ?_
    refine al_36 C (512 * v + p) (z := M 36 (512 * v + p)) (by omega) (by omega) rfl dX6_comes_24 ?_
    refine ww_goto C 38 dX6_comes_25 (by decide) ?_
    exact RT _ _ _ _ dX6_comes_38 (⟨by unfold comeZ; first | exact (if_pos (by omega)).symm | exact (if_neg (by omega)).symm, rfl⟩)
set_option maxRecDepth 100000 in
set_option maxHeartbeats 4000000 in
theorem ct_X6_work_39 (w : WLD) (M : Mem) (nv p : Nat) (hp : p < 512) (hnv : M 30 1 = (nv : Int)) (hn4 : nv ≤ 4) (hs : SzOk (M 31)) (hst : StOk (M 32)) (hac : ∀ v : Nat, v < nv → 0 ≤ M 33 v ∧ M 33 v ≤ 7) (hlf : ∀ v : Nat, v < nv → 0 ≤ M 34 v ∧ M 34 v < nv) (hrt : ∀ v : Nat, v < nv → 0 ≤ M 35 v ∧ M 35 v < nv) (hed : ∀ q : Nat, R32 (M 36 q)) (har : ∀ q : Nat, R32 (M 39 q)) : CtV w yX6_work cX6_work 7 rm_X6_work [.ref (wa w 30), .ref (wa w 39), .int (iZ ((p : Nat) : Int))] M (fun M1 => M1 = ups M 39 (wkA (M 31) (M 32) (M 33) (M 34) (M 35) (M 36) (M 39) p nv)) := by
  refine CtV.of (by decide) (Nat.le_of_ble_eq_true rfl) rfl rfl ?_
  intro k hkL C RT
  show WW w k 0 [(0, .ref (wa w 30)), (1, .ref (wa w 39)), (2, .int (iZ ((p : Nat) : Int)))] [] M
  refine ww_iconst C dX6_work_0 ?_
  refine ww_istore_n C dX6_work_1 (lv' := [(3, .int (iZ 0)), (0, .ref (wa w 30)), (1, .ref (wa w 39)), (2, .int (iZ ((p : Nat) : Int)))]) (by rw [hkL]; decide) rfl ?_
  have L_2 : ∀ (fuel : Nat) (t : Nat) (ht : t ≤ nv), nv - t < fuel → WW w k 2 [(0, .ref (wa w 30)), (1, .ref (wa w 39)), (2, .int (iZ ((p : Nat) : Int))), (3, .int (iZ ((t : Nat) : Int)))] [] (ups M 39 (wkA (M 31) (M 32) (M 33) (M 34) (M 35) (M 36) (M 39) p t)) := by
    intro fuel
    induction fuel with
    | zero => intro t ht hf_2; exact absurd hf_2 (Nat.not_lt_zero _)
    | succ fuel ih_2 =>
      intro t ht hf_2
      have har2 : ∀ q : Nat, R32 (wkA (M 31) (M 32) (M 33) (M 34) (M 35) (M 36) (M 39) p t q) := wkA_R hed har t
      have hc : ∀ v : Nat, R32 (comeZ (M 31) (M 32) (M 36) (wkA (M 31) (M 32) (M 33) (M 34) (M 35) (M 36) (M 39) p t) v p) := fun v => comeZ_R hed har2
      have hlf1 := hlf t
      have hrt1 := hrt t
      have hac1 := hac t
      refine ww_iload_n C dX6_work_2 3 rfl ?_
      refine ww_aload_n C dX6_work_3 0 rfl ?_
      refine gt_X6_58 C dX6_work_4 ?_
      refine ww_top (b := ((nv : Nat) : Int)) (hnv) ?_
      refine ww_icmp_ge C 77 dX6_work_7 (by decide) (by omega) (by omega) (fun c_7 => ?_) (fun c_7 => ?_)
      · exact RT _ _ _ dX6_work_77 (by rw [show t = nv by omega])
      · refine ww_aload_n C dX6_work_10 0 rfl ?_
        refine ww_aload_n C dX6_work_11 1 rfl ?_
        refine ww_iload_n C dX6_work_12 3 rfl ?_
        refine ww_iload_n C dX6_work_13 2 rfl ?_
        refine ww_callV C (As := [.ref (wa w 39), .int (iZ ((t : Nat) : Int)), .int (iZ ((p : Nat) : Int))]) 30 (by decide) (ct_X6_comes_39 w (ups M 39 (wkA (M 31) (M 32) (M 33) (M 34) (M 35) (M 36) (M 39) p t)) t p (show t < 4 from by omega) (show p < 512 from by omega) (show SzOk ((M 31)) from hs) (show StOk ((M 32)) from hst)) mf_X6_comes ml_X6_142 rfl rfl (by decide) rfl rfl (Nat.le_of_ble_eq_true rfl) dX6_work_14 (fun z_14 M_14 hp_14 => ?_)
        rw [hp_14.1, hp_14.2]
        refine ww_top (b := comeZ ((M 31)) ((M 32)) ((M 36)) ((wkA (M 31) (M 32) (M 33) (M 34) (M 35) (M 36) (M 39) p t)) t p) rfl ?_
        refine ww_istore C dX6_work_17 (lv' := [(4, .int (iZ (comeZ ((M 31)) ((M 32)) ((M 36)) ((wkA (M 31) (M 32) (M 33) (M 34) (M 35) (M 36) (M 39) p t)) t p))), (0, .ref (wa w 30)), (1, .ref (wa w 39)), (2, .int (iZ ((p : Nat) : Int))), (3, .int (iZ ((t : Nat) : Int)))]) (by rw [hkL]; decide) rfl ?_
        refine ww_aload_n C dX6_work_19 1 rfl ?_
        refine ww_aload_n C dX6_work_20 2 rfl ?_
        refine ww_aload_n C dX6_work_21 1 rfl ?_
        refine gt_X6_19 C dX6_work_22 ?_
        refine ww_iload_n C dX6_work_25 4 rfl ?_
        refine al_34 C t (z := (((M 34 t).toNat : Nat) : Int)) rfl (by omega) (show M 34 t = _ from by have := hlf1 (by omega); omega) dX6_work_26 ?_
        refine ww_iload_n C dX6_work_27 3 rfl ?_
        refine ww_callV C (As := [.ref (wa w 39), .int (iZ (((M 34 t).toNat : Nat) : Int)), .int (iZ ((p : Nat) : Int))]) 30 (by decide) (ct_X6_comes_39 w (ups M 39 (wkA (M 31) (M 32) (M 33) (M 34) (M 35) (M 36) (M 39) p t)) ((M 34 t).toNat) p (show ((M 34 t).toNat) < 4 from by have := hlf1 (by omega); omega) (show p < 512 from by omega) (show SzOk ((M 31)) from hs) (show StOk ((M 32)) from hst)) mf_X6_comes ml_X6_142 rfl rfl (by decide) rfl rfl (Nat.le_of_ble_eq_true rfl) dX6_work_28 (fun z_28 M_28 hp_28 => ?_)
        rw [hp_28.1, hp_28.2]
        refine ww_top (b := comeZ ((M 31)) ((M 32)) ((M 36)) ((wkA (M 31) (M 32) (M 33) (M 34) (M 35) (M 36) (M 39) p t)) ((M 34 t).toNat) p) rfl ?_
        refine ww_istore C dX6_work_31 (lv' := [(5, .int (iZ (comeZ ((M 31)) ((M 32)) ((M 36)) ((wkA (M 31) (M 32) (M 33) (M 34) (M 35) (M 36) (M 39) p t)) ((M 34 t).toNat) p))), (4, .int (iZ (comeZ ((M 31)) ((M 32)) ((M 36)) ((wkA (M 31) (M 32) (M 33) (M 34) (M 35) (M 36) (M 39) p t)) t p))), (0, .ref (wa w 30)), (1, .ref (wa w 39)), (2, .int (iZ ((p : Nat) : Int))), (3, .int (iZ ((t : Nat) : Int)))]) (by rw [hkL]; decide) rfl ?_
        refine ww_aload_n C dX6_work_33 2 rfl ?_
        refine ww_aload_n C dX6_work_34 3 rfl ?_
        refine ww_aload_n C dX6_work_35 2 rfl ?_
        refine gt_X6_22 C dX6_work_36 ?_
        refine ww_iload_n C dX6_work_39 5 rfl ?_
        refine al_35 C t (z := (((M 35 t).toNat : Nat) : Int)) rfl (by omega) (show M 35 t = _ from by have := hrt1 (by omega); omega) dX6_work_40 ?_
        refine ww_iload_n C dX6_work_41 4 rfl ?_
        refine ww_callV C (As := [.ref (wa w 39), .int (iZ (((M 35 t).toNat : Nat) : Int)), .int (iZ ((p : Nat) : Int))]) 30 (by decide) (ct_X6_comes_39 w (ups M 39 (wkA (M 31) (M 32) (M 33) (M 34) (M 35) (M 36) (M 39) p t)) ((M 35 t).toNat) p (show ((M 35 t).toNat) < 4 from by have := hrt1 (by omega); omega) (show p < 512 from by omega) (show SzOk ((M 31)) from hs) (show StOk ((M 32)) from hst)) mf_X6_comes ml_X6_142 rfl rfl (by decide) rfl rfl (Nat.le_of_ble_eq_true rfl) dX6_work_42 (fun z_42 M_42 hp_42 => ?_)
        rw [hp_42.1, hp_42.2]
        refine ww_top (b := comeZ ((M 31)) ((M 32)) ((M 36)) ((wkA (M 31) (M 32) (M 33) (M 34) (M 35) (M 36) (M 39) p t)) ((M 35 t).toNat) p) rfl ?_
        refine ww_istore C dX6_work_45 (lv' := [(6, .int (iZ (comeZ ((M 31)) ((M 32)) ((M 36)) ((wkA (M 31) (M 32) (M 33) (M 34) (M 35) (M 36) (M 39) p t)) ((M 35 t).toNat) p))), (5, .int (iZ (comeZ ((M 31)) ((M 32)) ((M 36)) ((wkA (M 31) (M 32) (M 33) (M 34) (M 35) (M 36) (M 39) p t)) ((M 34 t).toNat) p))), (4, .int (iZ (comeZ ((M 31)) ((M 32)) ((M 36)) ((wkA (M 31) (M 32) (M 33) (M 34) (M 35) (M 36) (M 39) p t)) t p))), (0, .ref (wa w 30)), (1, .ref (wa w 39)), (2, .int (iZ ((p : Nat) : Int))), (3, .int (iZ ((t : Nat) : Int)))]) (by rw [hkL]; decide) rfl ?_
        refine ww_aload_n C dX6_work_47 4 rfl ?_
        refine ww_sipush C dX6_work_48 (by decide) ?_
        refine ww_iload_n C dX6_work_51 6 rfl ?_
        refine ww_imul C dX6_work_52 ?_
        refine ww_iload_n C dX6_work_53 5 rfl ?_
        refine ww_iadd C dX6_work_54 ?_
        refine ww_aload_n C dX6_work_55 3 rfl ?_
        refine gt_X6_16 C dX6_work_56 ?_
        refine ww_iload_n C dX6_work_59 6 rfl ?_
        refine al_33 C t (z := M 33 t) rfl (by omega) rfl dX6_work_60 ?_
        refine ww_iload C dX6_work_61 2 rfl ?_
        refine ww_iload C dX6_work_63 1 rfl ?_
        refine ww_iload C dX6_work_65 0 rfl ?_
        refine ww_callS C (As := [.int (iZ (M 33 t)), .int (iZ (comeZ ((M 31)) ((M 32)) ((M 36)) ((wkA (M 31) (M 32) (M 33) (M 34) (M 35) (M 36) (M 39) p t)) t p)), .int (iZ (comeZ ((M 31)) ((M 32)) ((M 36)) ((wkA (M 31) (M 32) (M 33) (M 34) (M 35) (M 36) (M 39) p t)) ((M 34 t).toNat) p)), .int (iZ (comeZ ((M 31)) ((M 32)) ((M 36)) ((wkA (M 31) (M 32) (M 33) (M 34) (M 35) (M 36) (M 39) p t)) ((M 35 t).toNat) p))]) (ct_X6_made w (ups M 39 (wkA (M 31) (M 32) (M 33) (M 34) (M 35) (M 36) (M 39) p t)) (M 33 t) (comeZ ((M 31)) ((M 32)) ((M 36)) ((wkA (M 31) (M 32) (M 33) (M 34) (M 35) (M 36) (M 39) p t)) t p) (comeZ ((M 31)) ((M 32)) ((M 36)) ((wkA (M 31) (M 32) (M 33) (M 34) (M 35) (M 36) (M 39) p t)) ((M 34 t).toNat) p) (comeZ ((M 31)) ((M 32)) ((M 36)) ((wkA (M 31) (M 32) (M 33) (M 34) (M 35) (M 36) (M 39) p t)) ((M 35 t).toNat) p) (show 0 ≤ (M 33 t) ∧ (M 33 t) ≤ 7 from hac1 (by omega)) (show R32 (comeZ ((M 31)) ((M 32)) ((M 36)) ((wkA (M 31) (M 32) (M 33) (M 34) (M 35) (M 36) (M 39) p t)) t p) from hc _) (show R32 (comeZ ((M 31)) ((M 32)) ((M 36)) ((wkA (M 31) (M 32) (M 33) (M 34) (M 35) (M 36) (M 39) p t)) ((M 34 t).toNat) p) from hc _) (show R32 (comeZ ((M 31)) ((M 32)) ((M 36)) ((wkA (M 31) (M 32) (M 33) (M 34) (M 35) (M 36) (M 39) p t)) ((M 35 t).toNat) p) from hc _)) mf_X6_made ml_X6_146 (by decide) rfl rfl (Nat.le_of_ble_eq_true rfl) dX6_work_67 (fun z_67 M_67 hp_67 => ?_)
        rw [hp_67.1, hp_67.2]
        refine ww_top (b := madeZ (M 33 t) (comeZ ((M 31)) ((M 32)) ((M 36)) ((wkA (M 31) (M 32) (M 33) (M 34) (M 35) (M 36) (M 39) p t)) t p) (comeZ ((M 31)) ((M 32)) ((M 36)) ((wkA (M 31) (M 32) (M 33) (M 34) (M 35) (M 36) (M 39) p t)) ((M 34 t).toNat) p) (comeZ ((M 31)) ((M 32)) ((M 36)) ((wkA (M 31) (M 32) (M 33) (M 34) (M 35) (M 36) (M 39) p t)) ((M 35 t).toNat) p)) rfl ?_
        refine as_39 C (512 * t + p) (by omega) (by omega) dX6_work_70 ?_
        refine ww_mem (M1 := ups M 39 (wkA (M 31) (M 32) (M 33) (M 34) (M 35) (M 36) (M 39) p (t + 1))) (by rw [ups_ups]; rfl) ?_
        refine ww_iinc2 C dX6_work_71 6 rfl (b := ((t + 1 : Nat) : Int)) (by omega) (lv' := [(3, .int (iZ ((t + 1 : Nat) : Int))), (6, .int (iZ (comeZ ((M 31)) ((M 32)) ((M 36)) ((wkA (M 31) (M 32) (M 33) (M 34) (M 35) (M 36) (M 39) p t)) ((M 35 t).toNat) p))), (5, .int (iZ (comeZ ((M 31)) ((M 32)) ((M 36)) ((wkA (M 31) (M 32) (M 33) (M 34) (M 35) (M 36) (M 39) p t)) ((M 34 t).toNat) p))), (4, .int (iZ (comeZ ((M 31)) ((M 32)) ((M 36)) ((wkA (M 31) (M 32) (M 33) (M 34) (M 35) (M 36) (M 39) p t)) t p))), (0, .ref (wa w 30)), (1, .ref (wa w 39)), (2, .int (iZ ((p : Nat) : Int)))]) (by rw [hkL]; decide) rfl ?_
        refine ww_goto C 2 dX6_work_74 (by decide) ?_
        refine ww_sub [4, 5, 6, 0] rfl ?_
        exact ih_2 (t + 1) (by omega) (by omega)
  refine ww_sub [1, 2, 3, 0] rfl ?_
  refine ww_mem (M1 := ups M 39 (wkA (M 31) (M 32) (M 33) (M 34) (M 35) (M 36) (M 39) p 0)) ((ups_id (M := M)).symm) ?_
  exact L_2 _ 0 (by omega) (Nat.lt_succ_self _)
set_option maxRecDepth 100000 in
set_option maxHeartbeats 4000000 in
theorem ct_X6_plainly (w : WLD) (M : Mem) (nv : Nat) (hnv : M 30 1 = (nv : Int)) (hn4 : nv ≤ 4) (hs : SzOk (M 31)) (hst : StOk (M 32)) (hac : ∀ v : Nat, v < nv → 0 ≤ M 33 v ∧ M 33 v ≤ 7) (hlf : ∀ v : Nat, v < nv → 0 ≤ M 34 v ∧ M 34 v < nv) (hrt : ∀ v : Nat, v < nv → 0 ≤ M 35 v ∧ M 35 v < nv) (hed : ∀ q : Nat, R32 (M 36 q)) (har : ∀ q : Nat, R32 (M 39 q)) : CtV w yX6_plainly cX6_plainly 2 rm_X6_plainly [.ref (wa w 30)] M (fun M1 => M1 = ups M 39 (plA (M 31) (M 32) (M 33) (M 34) (M 35) (M 36) nv (M 39) 512)) := by
  refine CtV.of (by decide) (Nat.le_of_ble_eq_true rfl) rfl rfl ?_
  intro k hkL C RT
  show WW w k 0 [(0, .ref (wa w 30))] [] M
  refine ww_iconst C dX6_plainly_0 ?_
  refine ww_istore_n C dX6_plainly_1 (lv' := [(1, .int (iZ 0)), (0, .ref (wa w 30))]) (by rw [hkL]; decide) rfl ?_
  have L_2 : ∀ (fuel : Nat) (t : Nat) (ht : t ≤ 512), 512 - t < fuel → WW w k 2 [(0, .ref (wa w 30)), (1, .int (iZ ((t : Nat) : Int)))] [] (ups M 39 (plA (M 31) (M 32) (M 33) (M 34) (M 35) (M 36) nv (M 39) t)) := by
    intro fuel
    induction fuel with
    | zero => intro t ht hf_2; exact absurd hf_2 (Nat.not_lt_zero _)
    | succ fuel ih_2 =>
      intro t ht hf_2
      refine ww_iload_n C dX6_plainly_2 1 rfl ?_
      refine ww_sipush C dX6_plainly_3 (by decide) ?_
      refine ww_icmp_ge C 32 dX6_plainly_6 (by decide) (by omega) (by omega) (fun c_6 => ?_) (fun c_6 => ?_)
      · exact RT _ _ _ dX6_plainly_32 (by rw [show t = 512 by omega])
      · refine ww_aload_n C dX6_plainly_9 0 rfl ?_
        refine ww_iload_n C dX6_plainly_10 1 rfl ?_
        refine ww_callV C (As := [.int (iZ ((t : Nat) : Int))]) 30 (by decide) (ct_X6_isPointNumber w (ups M 39 (plA (M 31) (M 32) (M 33) (M 34) (M 35) (M 36) nv (M 39) t)) t (show t < 512 from by omega) (show SzOk ((M 31)) from hs)) mf_X6_isPointNumber ml_X6_106 rfl rfl (by decide) rfl rfl (Nat.le_of_ble_eq_true rfl) dX6_plainly_11 (fun z_11 M_11 hp_11 => ?_)
        rw [hp_11.1, hp_11.2]
        refine ww_top (b := b2i (isP ((M 31)) t)) rfl ?_
        refine ww_ifb_eq C 26 dX6_plainly_14 (by decide) (fun c_14 => ?_) (fun c_14 => ?_)
        · refine ww_mem (M1 := ups M 39 (plA (M 31) (M 32) (M 33) (M 34) (M 35) (M 36) nv (M 39) (t + 1))) (by rw [plA_n c_14]) ?_
          refine ww_iinc2 C dX6_plainly_26 1 rfl (b := ((t + 1 : Nat) : Int)) (by omega) (lv' := [(1, .int (iZ ((t + 1 : Nat) : Int))), (0, .ref (wa w 30))]) (by rw [hkL]; decide) rfl ?_
          refine ww_goto C 2 dX6_plainly_29 (by decide) ?_
          refine ww_sub [1, 0] rfl ?_
          exact ih_2 (t + 1) (by omega) (by omega)
        · refine ww_aload_n C dX6_plainly_17 0 rfl ?_
          refine ww_aload_n C dX6_plainly_18 0 rfl ?_
          refine gt_X6_38 C dX6_plainly_19 ?_
          refine ww_iload_n C dX6_plainly_22 1 rfl ?_
          refine ww_callVV C (As := [.ref (wa w 39), .int (iZ ((t : Nat) : Int))]) 30 (by decide) (ct_X6_work_39 w (ups M 39 (plA (M 31) (M 32) (M 33) (M 34) (M 35) (M 36) nv (M 39) t)) nv t (show t < 512 from by omega) (show (M 30) 1 = (nv : Int) from hnv) (show nv ≤ 4 from hn4) (show SzOk ((M 31)) from hs) (show StOk ((M 32)) from hst) (show ∀ v : Nat, v < nv → 0 ≤ (M 33) v ∧ (M 33) v ≤ 7 from hac) (show ∀ v : Nat, v < nv → 0 ≤ (M 34) v ∧ (M 34) v < nv from hlf) (show ∀ v : Nat, v < nv → 0 ≤ (M 35) v ∧ (M 35) v < nv from hrt) (show ∀ q : Nat, R32 ((M 36) q) from hed) (show ∀ q : Nat, R32 ((plA (M 31) (M 32) (M 33) (M 34) (M 35) (M 36) nv (M 39) t) q) from fun q9 => plA_R hed har t q9)) mf_X6_work ml_X6_150 rfl rfl (by decide) rfl rfl (Nat.le_of_ble_eq_true rfl) dX6_plainly_23 (fun M_23 hp_23 => ?_)
          rw [hp_23]
          refine ww_mem (M1 := ups M 39 (wkA ((M 31)) ((M 32)) ((M 33)) ((M 34)) ((M 35)) ((M 36)) ((plA (M 31) (M 32) (M 33) (M 34) (M 35) (M 36) nv (M 39) t)) t nv)) ups_ups ?_
          refine ww_mem (M1 := ups M 39 (plA (M 31) (M 32) (M 33) (M 34) (M 35) (M 36) nv (M 39) (t + 1))) (by rw [plA_p c_14]) ?_
          refine ww_iinc2 C dX6_plainly_26 1 rfl (b := ((t + 1 : Nat) : Int)) (by omega) (lv' := [(1, .int (iZ ((t + 1 : Nat) : Int))), (0, .ref (wa w 30))]) (by rw [hkL]; decide) rfl ?_
          refine ww_goto C 2 dX6_plainly_29 (by decide) ?_
          refine ww_sub [1, 0] rfl ?_
          exact ih_2 (t + 1) (by omega) (by omega)
  refine ww_sub [1, 0] rfl ?_
  refine ww_mem (M1 := ups M 39 (plA (M 31) (M 32) (M 33) (M 34) (M 35) (M 36) nv (M 39) 0)) ((ups_id (M := M)).symm) ?_
  exact L_2 _ 0 (by omega) (Nat.lt_succ_self _)
set_option maxRecDepth 100000 in
set_option maxHeartbeats 4000000 in
theorem ct_X6_plain (w : WLD) (M : Mem) (nv : Nat) (v i j l : Int) (h1 : R32 v) (h2 : R32 i) (h3 : R32 j) (h4 : R32 l) (hnv : M 30 1 = (nv : Int)) (hn4 : nv ≤ 4) (hs : SzOk (M 31)) (hst : StOk (M 32)) (hac : ∀ v : Nat, v < nv → 0 ≤ M 33 v ∧ M 33 v ≤ 7) (hlf : ∀ v : Nat, v < nv → 0 ≤ M 34 v ∧ M 34 v < nv) (hrt : ∀ v : Nat, v < nv → 0 ≤ M 35 v ∧ M 35 v < nv) (hed : ∀ q : Nat, R32 (M 36 q)) (har : ∀ q : Nat, R32 (M 39 q)) : CtI w yX6_plain cX6_plain 5 (some .int) rm_X6_plain [.ref (wa w 30), .int (iZ v), .int (iZ i), .int (iZ j), .int (iZ l)] M (fun z M1 => (((0 ≤ v ∧ v < M 30 1) ∧ ((0 ≤ i ∧ i < M 31 0) ∧ (0 ≤ j ∧ j < M 31 1) ∧ (0 ≤ l ∧ l < M 31 2))) ∧ z = plA (M 31) (M 32) (M 33) (M 34) (M 35) (M 36) nv (M 39) 512 (512 * v + (64 * i + 8 * j + l)).toNat ∧ M1 = ups M 39 (plA (M 31) (M 32) (M 33) (M 34) (M 35) (M 36) nv (M 39) 512)) ∨ (¬ ((0 ≤ v ∧ v < M 30 1) ∧ ((0 ≤ i ∧ i < M 31 0) ∧ (0 ≤ j ∧ j < M 31 1) ∧ (0 ≤ l ∧ l < M 31 2))) ∧ z = 0 ∧ M1 = M)) := by
  refine CtI.of (by decide) (Nat.le_of_ble_eq_true rfl) rfl rfl ?_
  intro k hkL C RT
  show WW w k 0 [(0, .ref (wa w 30)), (1, .int (iZ v)), (2, .int (iZ i)), (3, .int (iZ j)), (4, .int (iZ l))] [] M
  refine ww_aload_n C dX6_plain_0 0 rfl ?_
  refine ww_iload_n C dX6_plain_1 1 rfl ?_
  refine ww_callV C (As := [.int (iZ v)]) 30 (by decide) (ct_X6_isVariable w M v (by omega) (by omega)) mf_X6_isVariable ml_X6_71 rfl rfl (by decide) rfl rfl (Nat.le_of_ble_eq_true rfl) dX6_plain_2 (fun z_2 M_2 hp_2 => ?_)
  rw [hp_2.1, hp_2.2]
  refine ww_ifb_eq C 19 dX6_plain_5 (by decide) (fun c_5 => ?_) (fun c_5 => ?_)
  · refine ww_iconst C dX6_plain_19 ?_
    exact RT _ _ _ _ dX6_plain_20 (by first | exact Or.inr ⟨by omega, rfl, rfl⟩ | exact Or.inl ⟨by omega, rfl, rfl⟩)
  · refine ww_aload_n C dX6_plain_8 0 rfl ?_
    refine ww_iload_n C dX6_plain_9 2 rfl ?_
    refine ww_iload_n C dX6_plain_10 3 rfl ?_
    refine ww_iload C dX6_plain_11 4 rfl ?_
    refine ww_callV C (As := [.int (iZ i), .int (iZ j), .int (iZ l)]) 30 (by decide) (ct_X6_isPoint w M i j l (by omega) (by omega) (by omega) (hs)) mf_X6_isPoint ml_X6_61 rfl rfl (by decide) rfl rfl (Nat.le_of_ble_eq_true rfl) dX6_plain_13 (fun z_13 M_13 hp_13 => ?_)
    rw [hp_13.1, hp_13.2]
    refine ww_ifb_ne C 21 dX6_plain_16 (by decide) (fun c_16 => ?_) (fun c_16 => ?_)
    · refine ww_aload_n C dX6_plain_21 0 rfl ?_
      refine ww_callVV C (As := []) 30 (by decide) (ct_X6_plainly w M nv (hnv) (hn4) (hs) (hst) (hac) (hlf) (hrt) (hed) (har)) mf_X6_plainly ml_X6_157 rfl rfl (by decide) rfl rfl (Nat.le_of_ble_eq_true rfl) dX6_plain_22 (fun M_22 hp_22 => ?_)
      rw [hp_22]
      refine ww_mem (M1 := ups M 39 (plA ((M 31)) ((M 32)) ((M 33)) ((M 34)) ((M 35)) ((M 36)) nv ((M 39)) 512)) rfl ?_
      refine ww_aload_n C dX6_plain_25 0 rfl ?_
      refine gt_X6_38 C dX6_plain_26 ?_
      refine ww_sipush C dX6_plain_29 (by decide) ?_
      refine ww_iload_n C dX6_plain_32 1 rfl ?_
      refine ww_imul C dX6_plain_33 ?_
      refine ww_bipush C dX6_plain_34 (by decide) ?_
      refine ww_iload_n C dX6_plain_36 2 rfl ?_
      refine ww_imul C dX6_plain_37 ?_
      refine ww_iadd C dX6_plain_38 ?_
      refine ww_bipush C dX6_plain_39 (by decide) ?_
      refine ww_iload_n C dX6_plain_41 3 rfl ?_
      refine ww_imul C dX6_plain_42 ?_
      refine ww_iadd C dX6_plain_43 ?_
      refine ww_iload C dX6_plain_44 4 rfl ?_
      refine ww_iadd C dX6_plain_46 ?_
      refine al_39 C ((512 * v + (64 * i + 8 * j + l)).toNat) (z := (plA ((M 31)) ((M 32)) ((M 33)) ((M 34)) ((M 35)) ((M 36)) nv ((M 39)) 512) ((512 * v + (64 * i + 8 * j + l)).toNat)) (by omega) (by omega) rfl dX6_plain_47 ?_
      exact RT _ _ _ _ dX6_plain_48 (by first | exact Or.inr ⟨by omega, rfl, rfl⟩ | exact Or.inl ⟨by omega, rfl, rfl⟩)
    · refine ww_iconst C dX6_plain_19 ?_
      exact RT _ _ _ _ dX6_plain_20 (by first | exact Or.inr ⟨by omega, rfl, rfl⟩ | exact Or.inl ⟨by omega, rfl, rfl⟩)
set_option maxRecDepth 100000 in
set_option maxHeartbeats 4000000 in
theorem ct_X6_value (w : WLD) (M : Mem) (v i j l : Int) (h1 : R32 v) (h2 : R32 i) (h3 : R32 j) (h4 : R32 l) (hr : M 30 9 = 0 ∨ M 30 9 = 1) (hn : 0 ≤ M 30 1 ∧ M 30 1 ≤ 4) (hs : SzOk (M 31)) : CtI w yX6_value cX6_value 5 (some .int) rm_X6_value [.ref (wa w 30), .int (iZ v), .int (iZ i), .int (iZ j), .int (iZ l)] M (fun z M1 => z = (if M 30 9 = 1 ∧ (0 ≤ v ∧ v < M 30 1) ∧ ((0 ≤ i ∧ i < M 31 0) ∧ (0 ≤ j ∧ j < M 31 1) ∧ (0 ≤ l ∧ l < M 31 2)) then M 38 (512 * v + (64 * i + 8 * j + l)).toNat else 0) ∧ M1 = M) := by
  refine CtI.of (by decide) (Nat.le_of_ble_eq_true rfl) rfl rfl ?_
  intro k hkL C RT
  show WW w k 0 [(0, .ref (wa w 30)), (1, .int (iZ v)), (2, .int (iZ i)), (3, .int (iZ j)), (4, .int (iZ l))] [] M
  refine ww_aload_n C dX6_value_0 0 rfl ?_
  refine gt_X6_67 C dX6_value_1 ?_
  refine ww_if_eq C 52 dX6_value_4 (by decide) (by omega) (fun c_4 => ?_) (fun c_4 => ?_)
  · refine ww_iconst C dX6_value_52 ?_
    exact RT _ _ _ _ dX6_value_53 (⟨by first | exact (if_pos (by omega)).symm | exact (if_neg (by omega)).symm, rfl⟩)
  · refine ww_aload_n C dX6_value_7 0 rfl ?_
    refine ww_iload_n C dX6_value_8 1 rfl ?_
    refine ww_callV C (As := [.int (iZ v)]) 30 (by decide) (ct_X6_isVariable w M v (by omega) (by omega)) mf_X6_isVariable ml_X6_71 rfl rfl (by decide) rfl rfl (Nat.le_of_ble_eq_true rfl) dX6_value_9 (fun z_9 M_9 hp_9 => ?_)
    rw [hp_9.1, hp_9.2]
    refine ww_ifb_eq C 52 dX6_value_12 (by decide) (fun c_12 => ?_) (fun c_12 => ?_)
    · refine ww_iconst C dX6_value_52 ?_
      exact RT _ _ _ _ dX6_value_53 (⟨by first | exact (if_pos (by omega)).symm | exact (if_neg (by omega)).symm, rfl⟩)
    · refine ww_aload_n C dX6_value_15 0 rfl ?_
      refine ww_iload_n C dX6_value_16 2 rfl ?_
      refine ww_iload_n C dX6_value_17 3 rfl ?_
      refine ww_iload C dX6_value_18 4 rfl ?_
      refine ww_callV C (As := [.int (iZ i), .int (iZ j), .int (iZ l)]) 30 (by decide) (ct_X6_isPoint w M i j l (by omega) (by omega) (by omega) (hs)) mf_X6_isPoint ml_X6_61 rfl rfl (by decide) rfl rfl (Nat.le_of_ble_eq_true rfl) dX6_value_20 (fun z_20 M_20 hp_20 => ?_)
      rw [hp_20.1, hp_20.2]
      refine ww_ifb_eq C 52 dX6_value_23 (by decide) (fun c_23 => ?_) (fun c_23 => ?_)
      · refine ww_iconst C dX6_value_52 ?_
        exact RT _ _ _ _ dX6_value_53 (⟨by first | exact (if_pos (by omega)).symm | exact (if_neg (by omega)).symm, rfl⟩)
      · refine ww_aload_n C dX6_value_26 0 rfl ?_
        refine gt_X6_35 C dX6_value_27 ?_
        refine ww_sipush C dX6_value_30 (by decide) ?_
        refine ww_iload_n C dX6_value_33 1 rfl ?_
        refine ww_imul C dX6_value_34 ?_
        refine ww_bipush C dX6_value_35 (by decide) ?_
        refine ww_iload_n C dX6_value_37 2 rfl ?_
        refine ww_imul C dX6_value_38 ?_
        refine ww_iadd C dX6_value_39 ?_
        refine ww_bipush C dX6_value_40 (by decide) ?_
        refine ww_iload_n C dX6_value_42 3 rfl ?_
        refine ww_imul C dX6_value_43 ?_
        refine ww_iadd C dX6_value_44 ?_
        refine ww_iload C dX6_value_45 4 rfl ?_
        refine ww_iadd C dX6_value_47 ?_
        refine al_38 C ((512 * v + (64 * i + 8 * j + l)).toNat) (z := M 38 ((512 * v + (64 * i + 8 * j + l)).toNat)) (by omega) (by omega) rfl dX6_value_48 ?_
        refine ww_goto C 53 dX6_value_49 (by decide) ?_
        exact RT _ _ _ _ dX6_value_53 (⟨by first | exact (if_pos (by omega)).symm | exact (if_neg (by omega)).symm, rfl⟩)
set_option maxRecDepth 100000 in
set_option maxHeartbeats 4000000 in
theorem ct_X6_result (w : WLD) (M : Mem) (nv : Nat) (v n x : Int) (h1 : R32 v) (h2 : R32 n) (h3 : R32 x) (hnv : M 30 1 = (nv : Int)) (hn4 : nv ≤ 4) (hs : SzOk (M 31)) (hst : StOk (M 32)) (hac : ∀ v : Nat, v < nv → 0 ≤ M 33 v ∧ M 33 v ≤ 7) (hlf : ∀ v : Nat, v < nv → 0 ≤ M 34 v ∧ M 34 v < nv) (hrt : ∀ v : Nat, v < nv → 0 ≤ M 35 v ∧ M 35 v < nv) (hed : ∀ q : Nat, R32 (M 36 q)) (har : ∀ q : Nat, R32 (M 39 q)) : CtI w yX6_result cX6_result 6 (some .int) rm_X6_result [.ref (wa w 30), .int (iZ v), .int (iZ n), .int (iZ x)] M (fun z M1 => (((0 ≤ v ∧ v < M 30 1) ∧ (0 ≤ x ∧ x ≤ 1)) ∧ (∃ y : Int, nthR (fun u : Nat => isP (M 31) u ∧ stepZ (M 31) (M 32) v.toNat u 1 = -1) n y ∧ z = if y = -1 then -1 else if x = 0 then y else plA (M 31) (M 32) (M 33) (M 34) (M 35) (M 36) nv (M 39) 512 (512 * v.toNat + y.toNat)) ∧ M1 = ups M 39 (plA (M 31) (M 32) (M 33) (M 34) (M 35) (M 36) nv (M 39) 512)) ∨ (¬ ((0 ≤ v ∧ v < M 30 1) ∧ (0 ≤ x ∧ x ≤ 1)) ∧ z = -1 ∧ M1 = M)) := by
  refine CtI.of (by decide) (Nat.le_of_ble_eq_true rfl) rfl rfl ?_
  intro k hkL C RT
  show WW w k 0 [(0, .ref (wa w 30)), (1, .int (iZ v)), (2, .int (iZ n)), (3, .int (iZ x))] [] M
  refine ww_aload_n C dX6_result_0 0 rfl ?_
  refine ww_iload_n C dX6_result_1 1 rfl ?_
  refine ww_callV C (As := [.int (iZ v)]) 30 (by decide) (ct_X6_isVariable w M v (by omega) (by omega)) mf_X6_isVariable ml_X6_71 rfl rfl (by decide) rfl rfl (Nat.le_of_ble_eq_true rfl) dX6_result_2 (fun z_2 M_2 hp_2 => ?_)
  rw [hp_2.1, hp_2.2]
  refine ww_ifb_eq C 17 dX6_result_5 (by decide) (fun c_5 => ?_) (fun c_5 => ?_)
  · refine ww_iconst C dX6_result_17 ?_
    exact RT _ _ _ _ dX6_result_18 (Or.inr ⟨by omega, rfl, rfl⟩)
  · refine ww_iload_n C dX6_result_8 3 rfl ?_
    refine ww_iconst C dX6_result_9 ?_
    refine ww_iconst C dX6_result_10 ?_
    refine ww_callS C (As := [.int (iZ x), .int (iZ 0), .int (iZ 1)]) (ct_X6_in w M x 0 1 (by omega) (by omega) (by omega)) mf_X6_in ml_X6_54 (by decide) rfl rfl (Nat.le_of_ble_eq_true rfl) dX6_result_11 (fun z_11 M_11 hp_11 => ?_)
    rw [hp_11.1, hp_11.2]
    refine ww_ifb_ne C 19 dX6_result_14 (by decide) (fun c_14 => ?_) (fun c_14 => ?_)
    · refine ww_aload_n C dX6_result_19 0 rfl ?_
      refine ww_callVV C (As := []) 30 (by decide) (ct_X6_plainly w M nv (hnv) (hn4) (hs) (hst) (hac) (hlf) (hrt) (hed) (har)) mf_X6_plainly ml_X6_157 rfl rfl (by decide) rfl rfl (Nat.le_of_ble_eq_true rfl) dX6_result_20 (fun M_20 hp_20 => ?_)
      rw [hp_20]
      refine ww_mem (M1 := ups M 39 (plA ((M 31)) ((M 32)) ((M 33)) ((M 34)) ((M 35)) ((M 36)) nv ((M 39)) 512)) rfl ?_
      refine ww_iconst C dX6_result_23 ?_
      refine ww_istore C dX6_result_24 (lv' := [(4, .int (iZ 0)), (0, .ref (wa w 30)), (1, .int (iZ v)), (2, .int (iZ n)), (3, .int (iZ x))]) (by rw [hkL]; decide) rfl ?_
      refine ww_iconst C dX6_result_26 ?_
      refine ww_istore C dX6_result_27 (lv' := [(5, .int (iZ 0)), (4, .int (iZ 0)), (0, .ref (wa w 30)), (1, .int (iZ v)), (2, .int (iZ n)), (3, .int (iZ x))]) (by rw [hkL]; decide) rfl ?_
      have L_29 : ∀ (fuel : Nat) (t j : Nat) (ht : t ≤ 512) (hm : (j : Int) = cnt (fun u : Nat => isP (M 31) u ∧ stepZ (M 31) (M 32) v.toNat u 1 = -1) t) (hno : ∀ u : Nat, u < t → (fun u : Nat => isP (M 31) u ∧ stepZ (M 31) (M 32) v.toNat u 1 = -1) u → cnt (fun u : Nat => isP (M 31) u ∧ stepZ (M 31) (M 32) v.toNat u 1 = -1) u ≠ n), 512 - t < fuel → WW w k 29 [(0, .ref (wa w 30)), (1, .int (iZ v)), (2, .int (iZ n)), (3, .int (iZ x)), (4, .int (iZ ((j : Nat) : Int))), (5, .int (iZ ((t : Nat) : Int)))] [] (ups M 39 (plA ((M 31)) ((M 32)) ((M 33)) ((M 34)) ((M 35)) ((M 36)) nv ((M 39)) 512)) := by
        intro fuel
        induction fuel with
        | zero => intro t j ht hm hno hf_29; exact absurd hf_29 (Nat.not_lt_zero _)
        | succ fuel ih_29 =>
          intro t j ht hm hno hf_29
          have hsb := stepZ_b (sz := M 31) (st := M 32) (v := v.toNat) (p := t) (sg := 1) hs
          have hcb := cnt_b (fun u : Nat => isP (M 31) u ∧ stepZ (M 31) (M 32) v.toNat u 1 = -1) t
          refine ww_iload C dX6_result_29 5 rfl ?_
          refine ww_sipush C dX6_result_31 (by decide) ?_
          refine ww_icmp_ge C 94 dX6_result_34 (by decide) (by omega) (by omega) (fun c_34 => ?_) (fun c_34 => ?_)
          · refine ww_iconst C dX6_result_94 ?_
            exact RT _ _ _ _ dX6_result_95 (Or.inl ⟨by omega, ⟨-1, Or.inr ⟨rfl, fun u h9 => hno u (by omega)⟩, by rw [if_pos rfl]⟩, rfl⟩)
          · refine ww_aload_n C dX6_result_37 0 rfl ?_
            refine ww_iload C dX6_result_38 5 rfl ?_
            refine ww_callV C (As := [.int (iZ ((t : Nat) : Int))]) 30 (by decide) (ct_X6_isPointNumber w (ups M 39 (plA ((M 31)) ((M 32)) ((M 33)) ((M 34)) ((M 35)) ((M 36)) nv ((M 39)) 512)) t (show t < 512 from by omega) (show SzOk ((M 31)) from hs)) mf_X6_isPointNumber ml_X6_106 rfl rfl (by decide) rfl rfl (Nat.le_of_ble_eq_true rfl) dX6_result_40 (fun z_40 M_40 hp_40 => ?_)
            rw [hp_40.1, hp_40.2]
            refine ww_top (b := b2i (isP ((M 31)) t)) rfl ?_
            refine ww_ifb_eq C 88 dX6_result_43 (by decide) (fun c_43 => ?_) (fun c_43 => ?_)
            · refine ww_iinc2 C dX6_result_88 5 rfl (b := ((t + 1 : Nat) : Int)) (by omega) (lv' := [(5, .int (iZ ((t + 1 : Nat) : Int))), (0, .ref (wa w 30)), (1, .int (iZ v)), (2, .int (iZ n)), (3, .int (iZ x)), (4, .int (iZ ((j : Nat) : Int)))]) (by rw [hkL]; decide) rfl ?_
              refine ww_goto C 29 dX6_result_91 (by decide) ?_
              refine ww_sub [1, 2, 3, 4, 5, 0] rfl ?_
              exact ih_29 (t + 1) j (by omega) (by rw [cnt_f (P := fun u : Nat => isP (M 31) u ∧ stepZ (M 31) (M 32) v.toNat u 1 = -1) (by first | exact fun h8 => c_43 h8.1 | exact fun h8 => by have e8 := h8.2; omega)]; exact hm) (fun u h9 h8 => by rcases Nat.lt_succ_iff_lt_or_eq.mp h9 with h7 | h7; exact hno u h7 h8; (exfalso; rw [h7] at h8; first | exact c_43 h8.1 | (have e8 := h8.2; omega))) (by omega)
            · refine ww_aload_n C dX6_result_46 0 rfl ?_
              refine ww_iload_n C dX6_result_47 1 rfl ?_
              refine ww_top (b := ((v.toNat : Nat) : Int)) (by omega) ?_
              refine ww_iload C dX6_result_48 5 rfl ?_
              refine ww_callV C (As := [.int (iZ ((v.toNat : Nat) : Int)), .int (iZ ((t : Nat) : Int))]) 30 (by decide) (ct_X6_behind w (ups M 39 (plA ((M 31)) ((M 32)) ((M 33)) ((M 34)) ((M 35)) ((M 36)) nv ((M 39)) 512)) v.toNat t (show v.toNat < 4 from by omega) (show t < 512 from by omega) (show SzOk ((M 31)) from hs) (show StOk ((M 32)) from hst)) mf_X6_behind ml_X6_154 rfl rfl (by decide) rfl rfl (Nat.le_of_ble_eq_true rfl) dX6_result_50 (fun z_50 M_50 hp_50 => ?_)
              rw [hp_50.1, hp_50.2]
              refine ww_top (b := stepZ ((M 31)) ((M 32)) v.toNat t 1) rfl ?_
              refine ww_if_ge C 88 dX6_result_53 (by decide) (by omega) (fun c_53 => ?_) (fun c_53 => ?_)
              · refine ww_iinc2 C dX6_result_88 5 rfl (b := ((t + 1 : Nat) : Int)) (by omega) (lv' := [(5, .int (iZ ((t + 1 : Nat) : Int))), (0, .ref (wa w 30)), (1, .int (iZ v)), (2, .int (iZ n)), (3, .int (iZ x)), (4, .int (iZ ((j : Nat) : Int)))]) (by rw [hkL]; decide) rfl ?_
                refine ww_goto C 29 dX6_result_91 (by decide) ?_
                refine ww_sub [1, 2, 3, 4, 5, 0] rfl ?_
                exact ih_29 (t + 1) j (by omega) (by rw [cnt_f (P := fun u : Nat => isP (M 31) u ∧ stepZ (M 31) (M 32) v.toNat u 1 = -1) (by first | exact fun h8 => c_43 h8.1 | exact fun h8 => by have e8 := h8.2; omega)]; exact hm) (fun u h9 h8 => by rcases Nat.lt_succ_iff_lt_or_eq.mp h9 with h7 | h7; exact hno u h7 h8; (exfalso; rw [h7] at h8; first | exact c_43 h8.1 | (have e8 := h8.2; omega))) (by omega)
              · refine ww_iload C dX6_result_56 4 rfl ?_
                refine ww_iload_n C dX6_result_58 2 rfl ?_
                refine ww_icmp_ne C 85 dX6_result_59 (by decide) (by omega) (by omega) (fun c_59 => ?_) (fun c_59 => ?_)
                · refine ww_iinc2 C dX6_result_85 4 rfl (b := ((j + 1 : Nat) : Int)) (by omega) (lv' := [(4, .int (iZ ((j + 1 : Nat) : Int))), (0, .ref (wa w 30)), (1, .int (iZ v)), (2, .int (iZ n)), (3, .int (iZ x)), (5, .int (iZ ((t : Nat) : Int)))]) (by rw [hkL]; decide) rfl ?_
                  refine ww_iinc2 C dX6_result_88 5 rfl (b := ((t + 1 : Nat) : Int)) (by omega) (lv' := [(5, .int (iZ ((t + 1 : Nat) : Int))), (4, .int (iZ ((j + 1 : Nat) : Int))), (0, .ref (wa w 30)), (1, .int (iZ v)), (2, .int (iZ n)), (3, .int (iZ x))]) (by rw [hkL]; decide) rfl ?_
                  refine ww_goto C 29 dX6_result_91 (by decide) ?_
                  refine ww_sub [2, 3, 4, 5, 1, 0] rfl ?_
                  exact ih_29 (t + 1) (j + 1) (by omega) (by rw [cnt_t (P := fun u : Nat => isP (M 31) u ∧ stepZ (M 31) (M 32) v.toNat u 1 = -1) ⟨c_43, by omega⟩]; omega) (fun u h9 h8 => by rcases Nat.lt_succ_iff_lt_or_eq.mp h9 with h7 | h7; exact hno u h7 h8; (rw [h7]; omega)) (by omega)
                · refine ww_iload_n C dX6_result_62 3 rfl ?_
                  refine ww_if_ne C 71 dX6_result_63 (by decide) (by omega) (fun c_63 => ?_) (fun c_63 => ?_)
                  · refine ww_aload_n C dX6_result_71 0 rfl ?_
                    refine gt_X6_38 C dX6_result_72 ?_
                    refine ww_sipush C dX6_result_75 (by decide) ?_
                    refine ww_iload_n C dX6_result_78 1 rfl ?_
                    refine ww_imul C dX6_result_79 ?_
                    refine ww_iload C dX6_result_80 5 rfl ?_
                    refine ww_iadd C dX6_result_82 ?_
                    refine al_39 C (512 * v.toNat + t) (z := (plA ((M 31)) ((M 32)) ((M 33)) ((M 34)) ((M 35)) ((M 36)) nv ((M 39)) 512) (512 * v.toNat + t)) (by omega) (by omega) rfl dX6_result_83 ?_
                    exact RT _ _ _ _ dX6_result_84 (Or.inl ⟨by omega, ⟨(t : Int), Or.inl ⟨t, by omega, rfl, ⟨c_43, by omega⟩, by omega⟩, by rw [if_neg (by omega)]; first | exact (if_pos (by omega)).symm | exact (if_neg (by omega)).symm⟩, rfl⟩)
                  · refine ww_iload C dX6_result_66 5 rfl ?_
                    refine ww_goto C 84 dX6_result_68 (by decide) ?_
                    exact RT _ _ _ _ dX6_result_84 (Or.inl ⟨by omega, ⟨(t : Int), Or.inl ⟨t, by omega, rfl, ⟨c_43, by omega⟩, by omega⟩, by rw [if_neg (by omega)]; first | exact (if_pos (by omega)).symm | exact (if_neg (by omega)).symm⟩, rfl⟩)
      refine ww_sub [2, 3, 4, 5, 1, 0] rfl ?_
      exact L_29 _ 0 0 (by omega) (rfl) (fun u h9 => absurd h9 (Nat.not_lt_zero _)) (Nat.lt_succ_self _)
    · refine ww_iconst C dX6_result_17 ?_
      exact RT _ _ _ _ dX6_result_18 (Or.inr ⟨by omega, rfl, rfl⟩)
set_option maxRecDepth 100000 in
set_option maxHeartbeats 4000000 in
theorem ct_X6_about (w : WLD) (M : Mem) (x : Int) (hx : R32 x) (hr : M 30 9 = 0 ∨ M 30 9 = 1) : CtI w yX6_about cX6_about 2 (some .int) rm_X6_about [.ref (wa w 30), .int (iZ x)] M (fun z M1 => z = aboZ (M 30 1) (M 31 0 * M 31 1 * M 31 2) (M 30 9) (M 30 8) (M 31) x ∧ M1 = M) := by
  refine CtI.of (by decide) (Nat.le_of_ble_eq_true rfl) rfl rfl ?_
  intro k hkL C RT
  show WW w k 0 [(0, .ref (wa w 30)), (1, .int (iZ x))] [] M
  refine ww_iload_n C dX6_about_0 1 rfl ?_
  rcases Classical.em (0 ≤ x ∧ x ≤ 3) with ht_1 | ht_1
  · rcases (show x = 0 ∨ x = 1 ∨ x = 2 ∨ x = 3 by omega) with ht_1 | ht_1 | ht_1 | ht_1
    · refine ww_tabIn C 32 0 dX6_about_1 ht_1 (by decide) (by decide) rfl (by decide) ?_
      refine ww_aload_n C dX6_about_32 0 rfl ?_
      refine gt_X6_58 C dX6_about_33 ?_
      exact RT _ _ _ _ dX6_about_36 (⟨by unfold aboZ; split <;> (try split) <;> (try split) <;> (try split) <;> (try split) <;> first | rfl | omega | contradiction, rfl⟩)
    · refine ww_tabIn C 37 1 dX6_about_1 ht_1 (by decide) (by decide) rfl (by decide) ?_
      refine ww_aload_n C dX6_about_37 0 rfl ?_
      refine ww_callV C (As := []) 30 (by decide) (ct_X6_points w M ) mf_X6_points ml_X6_127 rfl rfl (by decide) rfl rfl (Nat.le_of_ble_eq_true rfl) dX6_about_38 (fun z_38 M_38 hp_38 => ?_)
      rw [hp_38.1, hp_38.2]
      exact RT _ _ _ _ dX6_about_41 (⟨by unfold aboZ; split <;> (try split) <;> (try split) <;> (try split) <;> (try split) <;> first | rfl | omega | contradiction, rfl⟩)
    · refine ww_tabIn C 42 2 dX6_about_1 ht_1 (by decide) (by decide) rfl (by decide) ?_
      refine ww_aload_n C dX6_about_42 0 rfl ?_
      refine gt_X6_67 C dX6_about_43 ?_
      refine ww_if_eq C 53 dX6_about_46 (by decide) (by omega) (fun c_46 => ?_) (fun c_46 => ?_)
      · refine ww_iconst C dX6_about_53 ?_
        exact RT _ _ _ _ dX6_about_54 (⟨by unfold aboZ; split <;> (try split) <;> (try split) <;> (try split) <;> (try split) <;> first | rfl | omega | contradiction, rfl⟩)
      · refine ww_iconst C dX6_about_49 ?_
        refine ww_goto C 54 dX6_about_50 (by decide) ?_
        exact RT _ _ _ _ dX6_about_54 (⟨by unfold aboZ; split <;> (try split) <;> (try split) <;> (try split) <;> (try split) <;> first | rfl | omega | contradiction, rfl⟩)
    · refine ww_tabIn C 55 3 dX6_about_1 ht_1 (by decide) (by decide) rfl (by decide) ?_
      refine ww_aload_n C dX6_about_55 0 rfl ?_
      refine gt_X6_31 C dX6_about_56 ?_
      exact RT _ _ _ _ dX6_about_59 (⟨by unfold aboZ; split <;> (try split) <;> (try split) <;> (try split) <;> (try split) <;> first | rfl | omega | contradiction, rfl⟩)
  · refine ww_tabOut C 60 dX6_about_1 (by omega) (by omega) (by decide) ?_
    refine ww_iload_n C dX6_about_60 1 rfl ?_
    refine ww_bipush C dX6_about_61 (by decide) ?_
    refine ww_bipush C dX6_about_63 (by decide) ?_
    refine ww_callS C (As := [.int (iZ x), .int (iZ 10), .int (iZ 12)]) (ct_X6_in w M x 10 12 (by omega) (by omega) (by omega)) mf_X6_in ml_X6_54 (by decide) rfl rfl (Nat.le_of_ble_eq_true rfl) dX6_about_65 (fun z_65 M_65 hp_65 => ?_)
    rw [hp_65.1, hp_65.2]
    refine ww_ifb_eq C 83 dX6_about_68 (by decide) (fun c_68 => ?_) (fun c_68 => ?_)
    · refine ww_iconst C dX6_about_83 ?_
      exact RT _ _ _ _ dX6_about_84 (⟨by unfold aboZ; split <;> (try split) <;> (try split) <;> (try split) <;> (try split) <;> first | rfl | omega | contradiction, rfl⟩)
    · refine ww_aload_n C dX6_about_71 0 rfl ?_
      refine gt_X6_7 C dX6_about_72 ?_
      refine ww_iload_n C dX6_about_75 1 rfl ?_
      refine ww_bipush C dX6_about_76 (by decide) ?_
      refine ww_isub C dX6_about_78 ?_
      refine al_31 C ((x - 10).toNat) (z := M 31 ((x - 10).toNat)) (by omega) (by omega) rfl dX6_about_79 ?_
      refine ww_goto C 84 dX6_about_80 (by decide) ?_
      exact RT _ _ _ _ dX6_about_84 (⟨by unfold aboZ; split <;> (try split) <;> (try split) <;> (try split) <;> (try split) <;> first | rfl | omega | contradiction, rfl⟩)
set_option maxRecDepth 100000 in
set_option maxHeartbeats 4000000 in
theorem ct_X6_worked (w : WLD) (M : Mem) (b c d : Int) (h1 : R32 b) (h2 : R32 c) (h3 : R32 d) (hr : M 30 9 = 0 ∨ M 30 9 = 1) (hs : SzOk (M 31)) (hnu : NuOk (M 37)) (hf : 1 ≤ M 30 8 ∧ M 30 8 ≤ 8) : CtI w yX6_worked cX6_worked 5 (some .int) rm_X6_worked [.ref (wa w 30), .int (iZ b), .int (iZ c), .int (iZ d)] M (fun z M1 => ((M 30 9 = 0 ∧ z = -1) ∨ (M 30 9 = 1 ∧ isFst (fun p => isP (M 31) p ∧ beatZ (M 37) (M 31) (M 30 8) p = b ∧ cellZ (M 37) (M 31) (M 30 8) p = c ∧ atZ (M 37) (M 31) 2 p = d) 512 z)) ∧ M1 = M) := by
  refine CtI.of (by decide) (Nat.le_of_ble_eq_true rfl) rfl rfl ?_
  intro k hkL C RT
  show WW w k 0 [(0, .ref (wa w 30)), (1, .int (iZ b)), (2, .int (iZ c)), (3, .int (iZ d))] [] M
  refine ww_iconst C dX6_worked_0 ?_
  refine ww_istore C dX6_worked_1 (lv' := [(4, .int (iZ 0)), (0, .ref (wa w 30)), (1, .int (iZ b)), (2, .int (iZ c)), (3, .int (iZ d))]) (by rw [hkL]; decide) rfl ?_
  have L_3 : ∀ (fuel : Nat) (t : Nat) (ht : t ≤ 512) (hno : ∀ u : Nat, u < t → ¬ (fun p => isP (M 31) p ∧ beatZ (M 37) (M 31) (M 30 8) p = b ∧ cellZ (M 37) (M 31) (M 30 8) p = c ∧ atZ (M 37) (M 31) 2 p = d) u), 512 - t < fuel → WW w k 3 [(0, .ref (wa w 30)), (1, .int (iZ b)), (2, .int (iZ c)), (3, .int (iZ d)), (4, .int (iZ ((t : Nat) : Int)))] [] M := by
    intro fuel
    induction fuel with
    | zero => intro t ht hno hf_3; exact absurd hf_3 (Nat.not_lt_zero _)
    | succ fuel ih_3 =>
      intro t ht hno hf_3
      refine ww_iload C dX6_worked_3 4 rfl ?_
      refine ww_sipush C dX6_worked_5 (by decide) ?_
      refine ww_icmp_ge C 67 dX6_worked_8 (by decide) (by omega) (by omega) (fun c_8 => ?_) (fun c_8 => ?_)
      · refine ww_iconst C dX6_worked_67 ?_
        exact RT _ _ _ _ dX6_worked_68 (by first | exact ⟨Or.inl ⟨by omega, rfl⟩, rfl⟩ | (rcases hr with e9 | e9; exact ⟨Or.inl ⟨e9, rfl⟩, rfl⟩; exact ⟨Or.inr ⟨e9, Or.inl ⟨rfl, fun u h9 => hno u (by omega)⟩⟩, rfl⟩))
      · refine ww_aload_n C dX6_worked_11 0 rfl ?_
        refine gt_X6_67 C dX6_worked_12 ?_
        refine ww_if_eq C 67 dX6_worked_15 (by decide) (by omega) (fun c_15 => ?_) (fun c_15 => ?_)
        · refine ww_iconst C dX6_worked_67 ?_
          exact RT _ _ _ _ dX6_worked_68 (by first | exact ⟨Or.inl ⟨by omega, rfl⟩, rfl⟩ | (rcases hr with e9 | e9; exact ⟨Or.inl ⟨e9, rfl⟩, rfl⟩; exact ⟨Or.inr ⟨e9, Or.inl ⟨rfl, fun u h9 => hno u (by omega)⟩⟩, rfl⟩))
        · refine ww_aload_n C dX6_worked_18 0 rfl ?_
          refine ww_iload C dX6_worked_19 4 rfl ?_
          refine ww_callV C (As := [.int (iZ ((t : Nat) : Int))]) 30 (by decide) (ct_X6_isPointNumber w M t (by omega) (hs)) mf_X6_isPointNumber ml_X6_106 rfl rfl (by decide) rfl rfl (Nat.le_of_ble_eq_true rfl) dX6_worked_21 (fun z_21 M_21 hp_21 => ?_)
          rw [hp_21.1, hp_21.2]
          refine ww_ifb_eq C 61 dX6_worked_24 (by decide) (fun c_24 => ?_) (fun c_24 => ?_)
          · refine ww_iinc2 C dX6_worked_61 4 rfl (b := ((t + 1 : Nat) : Int)) (by omega) (lv' := [(4, .int (iZ ((t + 1 : Nat) : Int))), (0, .ref (wa w 30)), (1, .int (iZ b)), (2, .int (iZ c)), (3, .int (iZ d))]) (by rw [hkL]; decide) rfl ?_
            refine ww_goto C 3 dX6_worked_64 (by decide) ?_
            refine ww_sub [1, 2, 3, 4, 0] rfl ?_
            exact ih_3 (t + 1) (by omega) (fun u h9 => by rcases Nat.lt_succ_iff_lt_or_eq.mp h9 with h9 | rfl; exact hno u h9; first | exact fun h8 => c_24 h8.1 | exact fun h8 => c_34 h8.2.1 | exact fun h8 => c_44 h8.2.2.1 | exact fun h8 => c_55 h8.2.2.2) (by omega)
          · have t0 := beatZ_b hnu hs hf.1 hf.2 c_24
            have t1 := cellZ_b hnu hs hf.1 c_24
            have t2 := atZ_b (h := 2) hnu hs (by omega) c_24
            refine ww_aload_n C dX6_worked_27 0 rfl ?_
            refine ww_iload C dX6_worked_28 4 rfl ?_
            refine ww_callV C (As := [.int (iZ ((t : Nat) : Int))]) 30 (by decide) (ct_X6_beatOf w M t (hnu) (hs) (hf) (c_24)) mf_X6_beatOf ml_X6_112 rfl rfl (by decide) rfl rfl (Nat.le_of_ble_eq_true rfl) dX6_worked_30 (fun z_30 M_30 hp_30 => ?_)
            rw [hp_30.1, hp_30.2]
            refine ww_iload_n C dX6_worked_33 1 rfl ?_
            refine ww_icmp_ne C 61 dX6_worked_34 (by decide) (by omega) (by omega) (fun c_34 => ?_) (fun c_34 => ?_)
            · refine ww_iinc2 C dX6_worked_61 4 rfl (b := ((t + 1 : Nat) : Int)) (by omega) (lv' := [(4, .int (iZ ((t + 1 : Nat) : Int))), (0, .ref (wa w 30)), (1, .int (iZ b)), (2, .int (iZ c)), (3, .int (iZ d))]) (by rw [hkL]; decide) rfl ?_
              refine ww_goto C 3 dX6_worked_64 (by decide) ?_
              refine ww_sub [1, 2, 3, 4, 0] rfl ?_
              exact ih_3 (t + 1) (by omega) (fun u h9 => by rcases Nat.lt_succ_iff_lt_or_eq.mp h9 with h9 | rfl; exact hno u h9; first | exact fun h8 => c_24 h8.1 | exact fun h8 => c_34 h8.2.1 | exact fun h8 => c_44 h8.2.2.1 | exact fun h8 => c_55 h8.2.2.2) (by omega)
            · refine ww_aload_n C dX6_worked_37 0 rfl ?_
              refine ww_iload C dX6_worked_38 4 rfl ?_
              refine ww_callV C (As := [.int (iZ ((t : Nat) : Int))]) 30 (by decide) (ct_X6_cellOf w M t (hnu) (hs) (hf) (c_24)) mf_X6_cellOf ml_X6_115 rfl rfl (by decide) rfl rfl (Nat.le_of_ble_eq_true rfl) dX6_worked_40 (fun z_40 M_40 hp_40 => ?_)
              rw [hp_40.1, hp_40.2]
              refine ww_iload_n C dX6_worked_43 2 rfl ?_
              refine ww_icmp_ne C 61 dX6_worked_44 (by decide) (by omega) (by omega) (fun c_44 => ?_) (fun c_44 => ?_)
              · refine ww_iinc2 C dX6_worked_61 4 rfl (b := ((t + 1 : Nat) : Int)) (by omega) (lv' := [(4, .int (iZ ((t + 1 : Nat) : Int))), (0, .ref (wa w 30)), (1, .int (iZ b)), (2, .int (iZ c)), (3, .int (iZ d))]) (by rw [hkL]; decide) rfl ?_
                refine ww_goto C 3 dX6_worked_64 (by decide) ?_
                refine ww_sub [1, 2, 3, 4, 0] rfl ?_
                exact ih_3 (t + 1) (by omega) (fun u h9 => by rcases Nat.lt_succ_iff_lt_or_eq.mp h9 with h9 | rfl; exact hno u h9; first | exact fun h8 => c_24 h8.1 | exact fun h8 => c_34 h8.2.1 | exact fun h8 => c_44 h8.2.2.1 | exact fun h8 => c_55 h8.2.2.2) (by omega)
              · refine ww_aload_n C dX6_worked_47 0 rfl ?_
                refine ww_iconst C dX6_worked_48 ?_
                refine ww_iload C dX6_worked_49 4 rfl ?_
                refine ww_callV C (As := [.int (iZ 2), .int (iZ ((t : Nat) : Int))]) 30 (by decide) (ct_X6_at w M 2 t (by omega) (by omega) (hnu) (hs)) mf_X6_at ml_X6_75 rfl rfl (by decide) rfl rfl (Nat.le_of_ble_eq_true rfl) dX6_worked_51 (fun z_51 M_51 hp_51 => ?_)
                rw [hp_51.1, hp_51.2]
                refine ww_iload_n C dX6_worked_54 3 rfl ?_
                refine ww_icmp_ne C 61 dX6_worked_55 (by decide) (by omega) (by omega) (fun c_55 => ?_) (fun c_55 => ?_)
                · refine ww_iinc2 C dX6_worked_61 4 rfl (b := ((t + 1 : Nat) : Int)) (by omega) (lv' := [(4, .int (iZ ((t + 1 : Nat) : Int))), (0, .ref (wa w 30)), (1, .int (iZ b)), (2, .int (iZ c)), (3, .int (iZ d))]) (by rw [hkL]; decide) rfl ?_
                  refine ww_goto C 3 dX6_worked_64 (by decide) ?_
                  refine ww_sub [1, 2, 3, 4, 0] rfl ?_
                  exact ih_3 (t + 1) (by omega) (fun u h9 => by rcases Nat.lt_succ_iff_lt_or_eq.mp h9 with h9 | rfl; exact hno u h9; first | exact fun h8 => c_24 h8.1 | exact fun h8 => c_34 h8.2.1 | exact fun h8 => c_44 h8.2.2.1 | exact fun h8 => c_55 h8.2.2.2) (by omega)
                · refine ww_iload C dX6_worked_58 4 rfl ?_
                  exact RT _ _ _ _ dX6_worked_60 (⟨Or.inr ⟨by omega, Or.inr ⟨t, rfl, by omega, ⟨c_24, c_34, c_44, c_55⟩, hno⟩⟩, rfl⟩)
  refine ww_sub [1, 2, 3, 4, 0] rfl ?_
  exact L_3 _ 0 (by omega) (fun u h9 => absurd h9 (Nat.not_lt_zero _)) (Nat.lt_succ_self _)
set_option maxRecDepth 100000 in
set_option maxHeartbeats 4000000 in
theorem ct_X6_run (w : WLD) (M : Mem) (nv : Nat) (hnv : M 30 1 = (nv : Int)) (hn4 : nv ≤ 4) (hs : SzOk (M 31)) (hst : StOk (M 32)) (hac : ∀ v : Nat, v < nv → 0 ≤ M 33 v ∧ M 33 v ≤ 7) (hlf : ∀ v : Nat, v < nv → 0 ≤ M 34 v ∧ M 34 v < nv) (hrt : ∀ v : Nat, v < nv → 0 ≤ M 35 v ∧ M 35 v < nv) (hed : ∀ q : Nat, R32 (M 36 q)) (hnu : NuOk (M 37)) (hf : 1 ≤ M 30 8 ∧ M 30 8 ≤ 8) (har : ∀ q : Nat, R32 (M 38 q)) : CtI w yX6_run cX6_run 4 (some .int) rm_X6_run [.ref (wa w 30)] M (fun z M1 => (rigP (M 37) (M 31) (M 32) nv ∧ z = M 31 0 * M 31 1 * M 31 2 ∧ ∃ bt : Nat, beaR (M 31) (beatZ (M 37) (M 31) (M 30 8)) 512 (bt : Int) ∧ M1 = ups (ups M 38 (outB (M 31) (M 32) (M 33) (M 34) (M 35) (M 36) (beatZ (M 37) (M 31) (M 30 8)) nv (M 38) bt)) 30 (up1 (M 30) 9 1)) ∨ (¬ rigP (M 37) (M 31) (M 32) nv ∧ z = -1 ∧ M1 = M)) := by
  refine CtI.of (by decide) (Nat.le_of_ble_eq_true rfl) rfl rfl ?_
  intro k hkL C RT
  have hbb : ∀ p : Nat, isP (M 31) p → 0 ≤ beatZ (M 37) (M 31) (M 30 8) p ∧ beatZ (M 37) (M 31) (M 30 8) p < 512 := fun p h9 => beatZ_b hnu hs hf.1 hf.2 h9
  show WW w k 0 [(0, .ref (wa w 30))] [] M
  refine ww_aload_n C dX6_run_0 0 rfl ?_
  refine ww_callV C (As := []) 30 (by decide) (ct_X6_isRight w M nv (hnv) (by omega) (hs) (hst) (hnu)) mf_X6_isRight ml_X6_136 rfl rfl (by decide) rfl rfl (Nat.le_of_ble_eq_true rfl) dX6_run_1 (fun z_1 M_1 hp_1 => ?_)
  obtain ⟨hz_1, hri_1, hm_1⟩ := hp_1
  refine ww_mem (M1 := M) (hm_1) ?_
  refine ww_if_ne C 9 dX6_run_4 (by decide) (by omega) (fun c_4 => ?_) (fun c_4 => ?_)
  · refine ww_aload_n C dX6_run_9 0 rfl ?_
    refine ww_callV C (As := []) 30 (by decide) (ct_X6_beats w M (hs) (hnu) (hf)) mf_X6_beats ml_X6_121 rfl rfl (by decide) rfl rfl (Nat.le_of_ble_eq_true rfl) dX6_run_10 (fun z_10 M_10 hp_10 => ?_)
    obtain ⟨hbe_10, hm_10⟩ := hp_10
    have hb10 := bea_b hs hbb hbe_10
    refine ww_mem (M1 := M) (hm_10) ?_
    refine ww_istore_n C dX6_run_13 (lv' := [(1, .int (iZ z_10)), (0, .ref (wa w 30))]) (by rw [hkL]; decide) rfl ?_
    refine ww_iconst C dX6_run_14 ?_
    refine ww_istore_n C dX6_run_15 (lv' := [(2, .int (iZ 0)), (1, .int (iZ z_10)), (0, .ref (wa w 30))]) (by rw [hkL]; decide) rfl ?_
    have L_16 : ∀ (fuel : Nat) (b : Nat) (hb : (b : Int) ≤ z_10), 512 - b < fuel → WW w k 16 [(0, .ref (wa w 30)), (1, .int (iZ z_10)), (2, .int (iZ ((b : Nat) : Int)))] [] (ups M 38 (outB (M 31) (M 32) (M 33) (M 34) (M 35) (M 36) (beatZ (M 37) (M 31) (M 30 8)) nv (M 38) b)) := by
      intro fuel
      induction fuel with
      | zero => intro b hb hf_16; exact absurd hf_16 (Nat.not_lt_zero _)
      | succ fuel ih_16 =>
        intro b hb hf_16
        refine ww_iload_n C dX6_run_16 2 rfl ?_
        refine ww_iload_n C dX6_run_17 1 rfl ?_
        refine ww_icmp_ge C 68 dX6_run_18 (by decide) (by omega) (by omega) (fun c_18 => ?_) (fun c_18 => ?_)
        · refine ww_aload_n C dX6_run_68 0 rfl ?_
          refine ww_iconst C dX6_run_69 ?_
          refine pt_X6_67 C (by decide) dX6_run_70 ?_
          refine ww_mem (M1 := ups (ups M 38 (outB (M 31) (M 32) (M 33) (M 34) (M 35) (M 36) (beatZ (M 37) (M 31) (M 30 8)) nv (M 38) b)) 30 (up1 (M 30) 9 1)) rfl ?_
          refine ww_aload_n C dX6_run_73 0 rfl ?_
          refine ww_callV C (As := []) 30 (by decide) (ct_X6_points w (ups (ups M 38 (outB (M 31) (M 32) (M 33) (M 34) (M 35) (M 36) (beatZ (M 37) (M 31) (M 30 8)) nv (M 38) b)) 30 (up1 (M 30) 9 1)) ) mf_X6_points ml_X6_127 rfl rfl (by decide) rfl rfl (Nat.le_of_ble_eq_true rfl) dX6_run_74 (fun z_74 M_74 hp_74 => ?_)
          rw [hp_74.1, hp_74.2]
          refine ww_top (b := (M 31) 0 * (M 31) 1 * (M 31) 2) rfl ?_
          exact RT _ _ _ _ dX6_run_77 (Or.inl ⟨hri_1.mp (by omega), rfl, b, by rw [show (b : Int) = z_10 by omega]; exact hbe_10, rfl⟩)
        · refine ww_iconst C dX6_run_21 ?_
          refine ww_istore_n C dX6_run_22 (lv' := [(3, .int (iZ 0)), (0, .ref (wa w 30)), (1, .int (iZ z_10)), (2, .int (iZ ((b : Nat) : Int)))]) (by rw [hkL]; decide) rfl ?_
          have L_23 : ∀ (fuel : Nat) (t : Nat) (ht : t ≤ 512), 512 - t < fuel → WW w k 23 [(0, .ref (wa w 30)), (1, .int (iZ z_10)), (2, .int (iZ ((b : Nat) : Int))), (3, .int (iZ ((t : Nat) : Int)))] [] (ups M 38 (inB (M 31) (M 32) (M 33) (M 34) (M 35) (M 36) (beatZ (M 37) (M 31) (M 30 8)) nv b (outB (M 31) (M 32) (M 33) (M 34) (M 35) (M 36) (beatZ (M 37) (M 31) (M 30 8)) nv (M 38) b) t)) := by
            intro fuel
            induction fuel with
            | zero => intro t ht hf_23; exact absurd hf_23 (Nat.not_lt_zero _)
            | succ fuel ih_23 =>
              intro t ht hf_23
              refine ww_iload_n C dX6_run_23 3 rfl ?_
              refine ww_sipush C dX6_run_24 (by decide) ?_
              refine ww_icmp_ge C 62 dX6_run_27 (by decide) (by omega) (by omega) (fun c_27 => ?_) (fun c_27 => ?_)
              · refine ww_mem (M1 := ups M 38 (outB (M 31) (M 32) (M 33) (M 34) (M 35) (M 36) (beatZ (M 37) (M 31) (M 30 8)) nv (M 38) (b + 1))) (by rw [show t = 512 by omega]; rfl) ?_
                refine ww_iinc2 C dX6_run_62 2 rfl (b := ((b + 1 : Nat) : Int)) (by omega) (lv' := [(2, .int (iZ ((b + 1 : Nat) : Int))), (0, .ref (wa w 30)), (1, .int (iZ z_10)), (3, .int (iZ ((t : Nat) : Int)))]) (by rw [hkL]; decide) rfl ?_
                refine ww_goto C 16 dX6_run_65 (by decide) ?_
                refine ww_sub [1, 2, 0] rfl ?_
                exact ih_16 (b + 1) (by omega) (by omega)
              · refine ww_aload_n C dX6_run_30 0 rfl ?_
                refine ww_iload_n C dX6_run_31 3 rfl ?_
                refine ww_callV C (As := [.int (iZ ((t : Nat) : Int))]) 30 (by decide) (ct_X6_isPointNumber w (ups M 38 (inB (M 31) (M 32) (M 33) (M 34) (M 35) (M 36) (beatZ (M 37) (M 31) (M 30 8)) nv b (outB (M 31) (M 32) (M 33) (M 34) (M 35) (M 36) (beatZ (M 37) (M 31) (M 30 8)) nv (M 38) b) t)) t (show t < 512 from by omega) (show SzOk ((M 31)) from hs)) mf_X6_isPointNumber ml_X6_106 rfl rfl (by decide) rfl rfl (Nat.le_of_ble_eq_true rfl) dX6_run_32 (fun z_32 M_32 hp_32 => ?_)
                rw [hp_32.1, hp_32.2]
                refine ww_top (b := b2i (isP ((M 31)) t)) rfl ?_
                refine ww_ifb_eq C 56 dX6_run_35 (by decide) (fun c_35 => ?_) (fun c_35 => ?_)
                · refine ww_mem (M1 := ups M 38 (inB (M 31) (M 32) (M 33) (M 34) (M 35) (M 36) (beatZ (M 37) (M 31) (M 30 8)) nv b (outB (M 31) (M 32) (M 33) (M 34) (M 35) (M 36) (beatZ (M 37) (M 31) (M 30 8)) nv (M 38) b) (t + 1))) (by rw [inB_n (fun h8 => c_35 h8.1)]) ?_
                  refine ww_iinc2 C dX6_run_56 3 rfl (b := ((t + 1 : Nat) : Int)) (by omega) (lv' := [(3, .int (iZ ((t + 1 : Nat) : Int))), (0, .ref (wa w 30)), (1, .int (iZ z_10)), (2, .int (iZ ((b : Nat) : Int)))]) (by rw [hkL]; decide) rfl ?_
                  refine ww_goto C 23 dX6_run_59 (by decide) ?_
                  refine ww_sub [1, 2, 3, 0] rfl ?_
                  exact ih_23 (t + 1) (by omega) (by omega)
                · have hbt9 := hbb t c_35
                  refine ww_aload_n C dX6_run_38 0 rfl ?_
                  refine ww_iload_n C dX6_run_39 3 rfl ?_
                  refine ww_callV C (As := [.int (iZ ((t : Nat) : Int))]) 30 (by decide) (ct_X6_beatOf w (ups M 38 (inB (M 31) (M 32) (M 33) (M 34) (M 35) (M 36) (beatZ (M 37) (M 31) (M 30 8)) nv b (outB (M 31) (M 32) (M 33) (M 34) (M 35) (M 36) (beatZ (M 37) (M 31) (M 30 8)) nv (M 38) b) t)) t (show NuOk ((M 37)) from hnu) (show SzOk ((M 31)) from hs) (show 1 ≤ (M 30) 8 ∧ (M 30) 8 ≤ 8 from hf) (show isP ((M 31)) t from c_35)) mf_X6_beatOf ml_X6_112 rfl rfl (by decide) rfl rfl (Nat.le_of_ble_eq_true rfl) dX6_run_40 (fun z_40 M_40 hp_40 => ?_)
                  rw [hp_40.1, hp_40.2]
                  refine ww_top (b := beatZ ((M 37)) ((M 31)) ((M 30) 8) t) rfl ?_
                  refine ww_iload_n C dX6_run_43 2 rfl ?_
                  refine ww_icmp_ne C 56 dX6_run_44 (by decide) (by omega) (by omega) (fun c_44 => ?_) (fun c_44 => ?_)
                  · refine ww_mem (M1 := ups M 38 (inB (M 31) (M 32) (M 33) (M 34) (M 35) (M 36) (beatZ (M 37) (M 31) (M 30 8)) nv b (outB (M 31) (M 32) (M 33) (M 34) (M 35) (M 36) (beatZ (M 37) (M 31) (M 30 8)) nv (M 38) b) (t + 1))) (by rw [inB_n (fun h8 => c_44 h8.2)]) ?_
                    refine ww_iinc2 C dX6_run_56 3 rfl (b := ((t + 1 : Nat) : Int)) (by omega) (lv' := [(3, .int (iZ ((t + 1 : Nat) : Int))), (0, .ref (wa w 30)), (1, .int (iZ z_10)), (2, .int (iZ ((b : Nat) : Int)))]) (by rw [hkL]; decide) rfl ?_
                    refine ww_goto C 23 dX6_run_59 (by decide) ?_
                    refine ww_sub [1, 2, 3, 0] rfl ?_
                    exact ih_23 (t + 1) (by omega) (by omega)
                  · refine ww_aload_n C dX6_run_47 0 rfl ?_
                    refine ww_aload_n C dX6_run_48 0 rfl ?_
                    refine gt_X6_35 C dX6_run_49 ?_
                    refine ww_iload_n C dX6_run_52 3 rfl ?_
                    refine ww_callVV C (As := [.ref (wa w 38), .int (iZ ((t : Nat) : Int))]) 30 (by decide) (ct_X6_work_38 w (ups M 38 (inB (M 31) (M 32) (M 33) (M 34) (M 35) (M 36) (beatZ (M 37) (M 31) (M 30 8)) nv b (outB (M 31) (M 32) (M 33) (M 34) (M 35) (M 36) (beatZ (M 37) (M 31) (M 30 8)) nv (M 38) b) t)) nv t (show t < 512 from by omega) (show (M 30) 1 = (nv : Int) from hnv) (show nv ≤ 4 from hn4) (show SzOk ((M 31)) from hs) (show StOk ((M 32)) from hst) (show ∀ v : Nat, v < nv → 0 ≤ (M 33) v ∧ (M 33) v ≤ 7 from hac) (show ∀ v : Nat, v < nv → 0 ≤ (M 34) v ∧ (M 34) v < nv from hlf) (show ∀ v : Nat, v < nv → 0 ≤ (M 35) v ∧ (M 35) v < nv from hrt) (show ∀ q : Nat, R32 ((M 36) q) from hed) (show ∀ q : Nat, R32 ((inB (M 31) (M 32) (M 33) (M 34) (M 35) (M 36) (beatZ (M 37) (M 31) (M 30 8)) nv b (outB (M 31) (M 32) (M 33) (M 34) (M 35) (M 36) (beatZ (M 37) (M 31) (M 30 8)) nv (M 38) b) t) q) from fun q9 => inB_R hed (outB_R hed har b) t q9)) mf_X6_work ml_X6_150 rfl rfl (by decide) rfl rfl (Nat.le_of_ble_eq_true rfl) dX6_run_53 (fun M_53 hp_53 => ?_)
                    rw [hp_53]
                    refine ww_mem (M1 := ups M 38 (wkA ((M 31)) ((M 32)) ((M 33)) ((M 34)) ((M 35)) ((M 36)) ((inB (M 31) (M 32) (M 33) (M 34) (M 35) (M 36) (beatZ (M 37) (M 31) (M 30 8)) nv b (outB (M 31) (M 32) (M 33) (M 34) (M 35) (M 36) (beatZ (M 37) (M 31) (M 30 8)) nv (M 38) b) t)) t nv)) ups_ups ?_
                    refine ww_mem (M1 := ups M 38 (inB (M 31) (M 32) (M 33) (M 34) (M 35) (M 36) (beatZ (M 37) (M 31) (M 30 8)) nv b (outB (M 31) (M 32) (M 33) (M 34) (M 35) (M 36) (beatZ (M 37) (M 31) (M 30 8)) nv (M 38) b) (t + 1))) (by rw [inB_p ⟨c_35, c_44⟩]) ?_
                    refine ww_iinc2 C dX6_run_56 3 rfl (b := ((t + 1 : Nat) : Int)) (by omega) (lv' := [(3, .int (iZ ((t + 1 : Nat) : Int))), (0, .ref (wa w 30)), (1, .int (iZ z_10)), (2, .int (iZ ((b : Nat) : Int)))]) (by rw [hkL]; decide) rfl ?_
                    refine ww_goto C 23 dX6_run_59 (by decide) ?_
                    refine ww_sub [1, 2, 3, 0] rfl ?_
                    exact ih_23 (t + 1) (by omega) (by omega)
          refine ww_sub [1, 2, 3, 0] rfl ?_
          refine ww_mem (M1 := ups M 38 (inB (M 31) (M 32) (M 33) (M 34) (M 35) (M 36) (beatZ (M 37) (M 31) (M 30 8)) nv b (outB (M 31) (M 32) (M 33) (M 34) (M 35) (M 36) (beatZ (M 37) (M 31) (M 30 8)) nv (M 38) b) 0)) (rfl) ?_
          exact L_23 _ 0 (by omega) (Nat.lt_succ_self _)
    refine ww_sub [2, 1, 0] rfl ?_
    refine ww_mem (M1 := ups M 38 (outB (M 31) (M 32) (M 33) (M 34) (M 35) (M 36) (beatZ (M 37) (M 31) (M 30 8)) nv (M 38) 0)) ((ups_id (M := M)).symm) ?_
    exact L_16 _ 0 (by omega) (Nat.lt_succ_self _)
  · refine ww_iconst C dX6_run_7 ?_
    exact RT _ _ _ _ dX6_run_8 (Or.inr ⟨fun h9 => by have e9 := hri_1.mpr h9; omega, rfl, rfl⟩)
set_option maxRecDepth 100000 in
set_option maxHeartbeats 4000000 in
theorem ct_X6_held (w : WLD) (M : Mem) (nv : Nat) (b : Int) (hb : R32 b) (hr : M 30 9 = 0 ∨ M 30 9 = 1) (hnv : M 30 1 = (nv : Int)) (hn4 : nv ≤ 4) (hs : SzOk (M 31)) (hst : StOk (M 32)) (hnu : NuOk (M 37)) (hf : 1 ≤ M 30 8 ∧ M 30 8 ≤ 8) : CtI w yX6_held cX6_held 6 (some .int) rm_X6_held [.ref (wa w 30), .int (iZ b)] M (fun z M1 => ((M 30 9 = 0 ∧ z = -1) ∨ (M 30 9 = 1 ∧ ∃ y : Int, beaR (M 31) (beatZ (M 37) (M 31) (M 30 8)) 512 y ∧ ((¬ (0 ≤ b ∧ b < y) ∧ z = -1) ∨ ((0 ≤ b ∧ b < y) ∧ z = hsu (M 31) (M 32) (beatZ (M 37) (M 31) (M 30 8)) b nv)))) ∧ M1 = M) := by
  refine CtI.of (by decide) (Nat.le_of_ble_eq_true rfl) rfl rfl ?_
  intro k hkL C RT
  have hbb : ∀ p : Nat, isP (M 31) p → 0 ≤ beatZ (M 37) (M 31) (M 30 8) p ∧ beatZ (M 37) (M 31) (M 30 8) p < 512 := fun p h9 => beatZ_b hnu hs hf.1 hf.2 h9
  show WW w k 0 [(0, .ref (wa w 30)), (1, .int (iZ b))] [] M
  refine ww_aload_n C dX6_held_0 0 rfl ?_
  refine gt_X6_67 C dX6_held_1 ?_
  refine ww_if_eq C 21 dX6_held_4 (by decide) (by omega) (fun c_4 => ?_) (fun c_4 => ?_)
  · refine ww_iconst C dX6_held_21 ?_
    exact RT _ _ _ _ dX6_held_22 (by first | exact ⟨Or.inl ⟨by omega, rfl⟩, rfl⟩ | exact ⟨Or.inr ⟨by omega, z_10, hbe_10, Or.inl ⟨by omega, rfl⟩⟩, rfl⟩)
  · refine ww_iload_n C dX6_held_7 1 rfl ?_
    refine ww_iconst C dX6_held_8 ?_
    refine ww_aload_n C dX6_held_9 0 rfl ?_
    refine ww_callV C (As := []) 30 (by decide) (ct_X6_beats w M (hs) (hnu) (hf)) mf_X6_beats ml_X6_121 rfl rfl (by decide) rfl rfl (Nat.le_of_ble_eq_true rfl) dX6_held_10 (fun z_10 M_10 hp_10 => ?_)
    obtain ⟨hbe_10, hm_10⟩ := hp_10
    have hb10 := bea_b hs hbb hbe_10
    refine ww_mem (M1 := M) (hm_10) ?_
    refine ww_iconst C dX6_held_13 ?_
    refine ww_isub C dX6_held_14 ?_
    refine ww_callS C (As := [.int (iZ b), .int (iZ 0), .int (iZ (z_10 - 1))]) (ct_X6_in w M b 0 (z_10 - 1) (by omega) (by omega) (by omega)) mf_X6_in ml_X6_54 (by decide) rfl rfl (Nat.le_of_ble_eq_true rfl) dX6_held_15 (fun z_15 M_15 hp_15 => ?_)
    rw [hp_15.1, hp_15.2]
    refine ww_ifb_ne C 23 dX6_held_18 (by decide) (fun c_18 => ?_) (fun c_18 => ?_)
    · refine ww_iconst C dX6_held_23 ?_
      refine ww_istore_n C dX6_held_24 (lv' := [(2, .int (iZ 0)), (0, .ref (wa w 30)), (1, .int (iZ b))]) (by rw [hkL]; decide) rfl ?_
      refine ww_iconst C dX6_held_25 ?_
      refine ww_istore_n C dX6_held_26 (lv' := [(3, .int (iZ 0)), (2, .int (iZ 0)), (0, .ref (wa w 30)), (1, .int (iZ b))]) (by rw [hkL]; decide) rfl ?_
      have L_27 : ∀ (fuel : Nat) (v : Nat) (n : Int) (hv : v ≤ nv) (hn : n = hsu (M 31) (M 32) (beatZ (M 37) (M 31) (M 30 8)) b v), nv - v < fuel → WW w k 27 [(0, .ref (wa w 30)), (1, .int (iZ b)), (2, .int (iZ n)), (3, .int (iZ ((v : Nat) : Int)))] [] M := by
        intro fuel
        induction fuel with
        | zero => intro v n hv hn hf_27; exact absurd hf_27 (Nat.not_lt_zero _)
        | succ fuel ih_27 =>
          intro v n hv hn hf_27
          refine ww_iload_n C dX6_held_27 3 rfl ?_
          refine ww_aload_n C dX6_held_28 0 rfl ?_
          refine gt_X6_58 C dX6_held_29 ?_
          refine ww_top (b := ((nv : Nat) : Int)) (hnv) ?_
          refine ww_icmp_ge C 113 dX6_held_32 (by decide) (by omega) (by omega) (fun c_32 => ?_) (fun c_32 => ?_)
          · refine ww_iload_n C dX6_held_113 2 rfl ?_
            exact RT _ _ _ _ dX6_held_114 (⟨Or.inr ⟨by omega, z_10, hbe_10, Or.inr ⟨by omega, by rw [hn, show v = nv by omega]⟩⟩, rfl⟩)
          · refine ww_iconst C dX6_held_35 ?_
            refine ww_istore C dX6_held_36 (lv' := [(4, .int (iZ 0)), (0, .ref (wa w 30)), (1, .int (iZ b)), (2, .int (iZ n)), (3, .int (iZ ((v : Nat) : Int)))]) (by rw [hkL]; decide) rfl ?_
            have L_38 : ∀ (fuel : Nat) (t : Nat) (n : Int) (ht : t ≤ 512) (hn2 : n = hsu (M 31) (M 32) (beatZ (M 37) (M 31) (M 30 8)) b v + cnt (heP (M 31) (M 32) (beatZ (M 37) (M 31) (M 30 8)) v b) t), 512 - t < fuel → WW w k 38 [(0, .ref (wa w 30)), (1, .int (iZ b)), (2, .int (iZ n)), (3, .int (iZ ((v : Nat) : Int))), (4, .int (iZ ((t : Nat) : Int)))] [] M := by
              intro fuel
              induction fuel with
              | zero => intro t n ht hn2 hf_38; exact absurd hf_38 (Nat.not_lt_zero _)
              | succ fuel ih_38 =>
                intro t n ht hn2 hf_38
                have hsb := stepZ_b (sz := M 31) (st := M 32) (v := v) (p := t) (sg := 1) hs
                refine ww_iload C dX6_held_38 4 rfl ?_
                refine ww_sipush C dX6_held_40 (by decide) ?_
                refine ww_icmp_ge C 107 dX6_held_43 (by decide) (by omega) (by omega) (fun c_43 => ?_) (fun c_43 => ?_)
                · refine ww_iinc2 C dX6_held_107 3 rfl (b := ((v + 1 : Nat) : Int)) (by omega) (lv' := [(3, .int (iZ ((v + 1 : Nat) : Int))), (0, .ref (wa w 30)), (1, .int (iZ b)), (2, .int (iZ n)), (4, .int (iZ ((t : Nat) : Int)))]) (by rw [hkL]; decide) rfl ?_
                  refine ww_goto C 27 dX6_held_110 (by decide) ?_
                  refine ww_sub [1, 2, 3, 0] rfl ?_
                  exact ih_27 (v + 1) n (by omega) (by rw [hn2, show t = 512 by omega]; rfl) (by omega)
                · refine ww_aload_n C dX6_held_46 0 rfl ?_
                  refine ww_iload C dX6_held_47 4 rfl ?_
                  refine ww_callV C (As := [.int (iZ ((t : Nat) : Int))]) 30 (by decide) (ct_X6_isPointNumber w M t (by omega) (hs)) mf_X6_isPointNumber ml_X6_106 rfl rfl (by decide) rfl rfl (Nat.le_of_ble_eq_true rfl) dX6_held_49 (fun z_49 M_49 hp_49 => ?_)
                  rw [hp_49.1, hp_49.2]
                  refine ww_ifb_eq C 65 dX6_held_52 (by decide) (fun c_52 => ?_) (fun c_52 => ?_)
                  · refine ww_iconst C dX6_held_65 ?_
                    refine ww_istore C dX6_held_66 (lv' := [(5, .int (iZ (-1))), (0, .ref (wa w 30)), (1, .int (iZ b)), (2, .int (iZ n)), (3, .int (iZ ((v : Nat) : Int))), (4, .int (iZ ((t : Nat) : Int)))]) (by rw [hkL]; decide) rfl ?_
                    refine ww_iload_n C dX6_held_68 3 rfl ?_
                    refine ww_iload C dX6_held_69 0 rfl ?_
                    refine ww_if_lt C 98 dX6_held_71 (by decide) (by omega) (fun c_71 => ?_) (fun c_71 => ?_)
                    · refine ww_iconst C dX6_held_98 ?_
                      refine ww_iadd C dX6_held_99 ?_
                      refine ww_istore_n C dX6_held_100 (lv' := [(2, .int (iZ (n + 0))), (5, .int (iZ (-1))), (0, .ref (wa w 30)), (1, .int (iZ b)), (3, .int (iZ ((v : Nat) : Int))), (4, .int (iZ ((t : Nat) : Int)))]) (by rw [hkL]; decide) rfl ?_
                      refine ww_iinc2 C dX6_held_101 5 rfl (b := ((t + 1 : Nat) : Int)) (by omega) (lv' := [(4, .int (iZ ((t + 1 : Nat) : Int))), (2, .int (iZ (n + 0))), (5, .int (iZ (-1))), (0, .ref (wa w 30)), (1, .int (iZ b)), (3, .int (iZ ((v : Nat) : Int)))]) (by rw [hkL]; decide) rfl ?_
                      refine ww_goto C 38 dX6_held_104 (by decide) ?_
                      refine ww_sub [3, 4, 1, 5, 0] rfl ?_
                      exact ih_38 (t + 1) (n + 0) (by omega) (by rw [cnt_f (P := heP (M 31) (M 32) (beatZ (M 37) (M 31) (M 30 8)) v b) (by first | exact fun h8 => c_52 h8.1.1 | exact fun h8 => by have e8 := h8.1.2; have e7 := h8.2; omega)]; omega) (by omega)
                    · exact absurd c_71 (by decide)
                  · have hbt9 := hbb t c_52
                    refine ww_aload_n C dX6_held_55 0 rfl ?_
                    refine ww_iload_n C dX6_held_56 3 rfl ?_
                    refine ww_iload C dX6_held_57 4 rfl ?_
                    refine ww_callV C (As := [.int (iZ ((v : Nat) : Int)), .int (iZ ((t : Nat) : Int))]) 30 (by decide) (ct_X6_behind w M v t (by omega) (by omega) (hs) (hst)) mf_X6_behind ml_X6_154 rfl rfl (by decide) rfl rfl (Nat.le_of_ble_eq_true rfl) dX6_held_59 (fun z_59 M_59 hp_59 => ?_)
                    rw [hp_59.1, hp_59.2]
                    refine ww_goto C 66 dX6_held_62 (by decide) ?_
                    refine ww_istore C dX6_held_66 (lv' := [(5, .int (iZ (stepZ ((M 31)) ((M 32)) v t 1))), (0, .ref (wa w 30)), (1, .int (iZ b)), (2, .int (iZ n)), (3, .int (iZ ((v : Nat) : Int))), (4, .int (iZ ((t : Nat) : Int)))]) (by rw [hkL]; decide) rfl ?_
                    refine ww_iload_n C dX6_held_68 3 rfl ?_
                    refine ww_iload C dX6_held_69 0 rfl ?_
                    refine ww_if_lt C 98 dX6_held_71 (by decide) (by omega) (fun c_71 => ?_) (fun c_71 => ?_)
                    · refine ww_iconst C dX6_held_98 ?_
                      refine ww_iadd C dX6_held_99 ?_
                      refine ww_istore_n C dX6_held_100 (lv' := [(2, .int (iZ (n + 0))), (5, .int (iZ (stepZ ((M 31)) ((M 32)) v t 1))), (0, .ref (wa w 30)), (1, .int (iZ b)), (3, .int (iZ ((v : Nat) : Int))), (4, .int (iZ ((t : Nat) : Int)))]) (by rw [hkL]; decide) rfl ?_
                      refine ww_iinc2 C dX6_held_101 5 rfl (b := ((t + 1 : Nat) : Int)) (by omega) (lv' := [(4, .int (iZ ((t + 1 : Nat) : Int))), (2, .int (iZ (n + 0))), (5, .int (iZ (stepZ ((M 31)) ((M 32)) v t 1))), (0, .ref (wa w 30)), (1, .int (iZ b)), (3, .int (iZ ((v : Nat) : Int)))]) (by rw [hkL]; decide) rfl ?_
                      refine ww_goto C 38 dX6_held_104 (by decide) ?_
                      refine ww_sub [3, 4, 1, 5, 0] rfl ?_
                      exact ih_38 (t + 1) (n + 0) (by omega) (by rw [cnt_f (P := heP (M 31) (M 32) (beatZ (M 37) (M 31) (M 30 8)) v b) (by first | exact fun h8 => c_52 h8.1.1 | exact fun h8 => by have e8 := h8.1.2; have e7 := h8.2; omega)]; omega) (by omega)
                    · refine ww_aload_n C dX6_held_74 1 rfl ?_
                      refine ww_iload C dX6_held_75 5 rfl ?_
                      refine ww_callV C (As := [.int (iZ ((t : Nat) : Int))]) 30 (by decide) (ct_X6_beatOf w M t (hnu) (hs) (hf) (c_52)) mf_X6_beatOf ml_X6_112 rfl rfl (by decide) rfl rfl (Nat.le_of_ble_eq_true rfl) dX6_held_77 (fun z_77 M_77 hp_77 => ?_)
                      rw [hp_77.1, hp_77.2]
                      refine ww_iload_n C dX6_held_80 2 rfl ?_
                      refine ww_icmp_gt C 98 dX6_held_81 (by decide) (by omega) (by omega) (fun c_81 => ?_) (fun c_81 => ?_)
                      · refine ww_iconst C dX6_held_98 ?_
                        refine ww_iadd C dX6_held_99 ?_
                        refine ww_istore_n C dX6_held_100 (lv' := [(2, .int (iZ (n + 0))), (5, .int (iZ (stepZ ((M 31)) ((M 32)) v t 1))), (0, .ref (wa w 30)), (1, .int (iZ b)), (3, .int (iZ ((v : Nat) : Int))), (4, .int (iZ ((t : Nat) : Int)))]) (by rw [hkL]; decide) rfl ?_
                        refine ww_iinc2 C dX6_held_101 5 rfl (b := ((t + 1 : Nat) : Int)) (by omega) (lv' := [(4, .int (iZ ((t + 1 : Nat) : Int))), (2, .int (iZ (n + 0))), (5, .int (iZ (stepZ ((M 31)) ((M 32)) v t 1))), (0, .ref (wa w 30)), (1, .int (iZ b)), (3, .int (iZ ((v : Nat) : Int)))]) (by rw [hkL]; decide) rfl ?_
                        refine ww_goto C 38 dX6_held_104 (by decide) ?_
                        refine ww_sub [3, 4, 1, 5, 0] rfl ?_
                        exact ih_38 (t + 1) (n + 0) (by omega) (by rw [cnt_f (P := heP (M 31) (M 32) (beatZ (M 37) (M 31) (M 30 8)) v b) (by first | exact fun h8 => c_52 h8.1.1 | exact fun h8 => by have e8 := h8.1.2; have e7 := h8.2; omega)]; omega) (by omega)
                      · refine ww_aload_n C dX6_held_84 1 rfl ?_
                        refine ww_iload C dX6_held_85 0 rfl ?_
                        refine ww_top (b := (((stepZ (M 31) (M 32) v t 1).toNat : Nat) : Int)) (by omega) ?_
                        refine ww_callV C (As := [.int (iZ (((stepZ (M 31) (M 32) v t 1).toNat : Nat) : Int))]) 30 (by decide) (ct_X6_beatOf w M ((stepZ (M 31) (M 32) v t 1).toNat) (hnu) (hs) (hf) (step_isP hs (by omega))) mf_X6_beatOf ml_X6_112 rfl rfl (by decide) rfl rfl (Nat.le_of_ble_eq_true rfl) dX6_held_87 (fun z_87 M_87 hp_87 => ?_)
                        rw [hp_87.1, hp_87.2]
                        refine ww_iload_n C dX6_held_90 2 rfl ?_
                        refine ww_icmp_le C 98 dX6_held_91 (by decide) (by have e9 := hbb _ (step_isP (sz := M 31) (st := M 32) (v := v) (p := t) (sg := 1) hs (by omega)); omega) (by omega) (fun c_91 => ?_) (fun c_91 => ?_)
                        · refine ww_iconst C dX6_held_98 ?_
                          refine ww_iadd C dX6_held_99 ?_
                          refine ww_istore_n C dX6_held_100 (lv' := [(2, .int (iZ (n + 0))), (5, .int (iZ (stepZ ((M 31)) ((M 32)) v t 1))), (0, .ref (wa w 30)), (1, .int (iZ b)), (3, .int (iZ ((v : Nat) : Int))), (4, .int (iZ ((t : Nat) : Int)))]) (by rw [hkL]; decide) rfl ?_
                          refine ww_iinc2 C dX6_held_101 5 rfl (b := ((t + 1 : Nat) : Int)) (by omega) (lv' := [(4, .int (iZ ((t + 1 : Nat) : Int))), (2, .int (iZ (n + 0))), (5, .int (iZ (stepZ ((M 31)) ((M 32)) v t 1))), (0, .ref (wa w 30)), (1, .int (iZ b)), (3, .int (iZ ((v : Nat) : Int)))]) (by rw [hkL]; decide) rfl ?_
                          refine ww_goto C 38 dX6_held_104 (by decide) ?_
                          refine ww_sub [3, 4, 1, 5, 0] rfl ?_
                          exact ih_38 (t + 1) (n + 0) (by omega) (by rw [cnt_f (P := heP (M 31) (M 32) (beatZ (M 37) (M 31) (M 30 8)) v b) (by first | exact fun h8 => c_52 h8.1.1 | exact fun h8 => by have e8 := h8.1.2; have e7 := h8.2; omega)]; omega) (by omega)
                        · refine ww_iconst C dX6_held_94 ?_
                          refine ww_goto C 99 dX6_held_95 (by decide) ?_
                          refine ww_iadd C dX6_held_99 ?_
                          refine ww_istore_n C dX6_held_100 (lv' := [(2, .int (iZ (n + 1))), (5, .int (iZ (stepZ ((M 31)) ((M 32)) v t 1))), (0, .ref (wa w 30)), (1, .int (iZ b)), (3, .int (iZ ((v : Nat) : Int))), (4, .int (iZ ((t : Nat) : Int)))]) (by rw [hkL]; decide) rfl ?_
                          refine ww_iinc2 C dX6_held_101 5 rfl (b := ((t + 1 : Nat) : Int)) (by omega) (lv' := [(4, .int (iZ ((t + 1 : Nat) : Int))), (2, .int (iZ (n + 1))), (5, .int (iZ (stepZ ((M 31)) ((M 32)) v t 1))), (0, .ref (wa w 30)), (1, .int (iZ b)), (3, .int (iZ ((v : Nat) : Int)))]) (by rw [hkL]; decide) rfl ?_
                          refine ww_goto C 38 dX6_held_104 (by decide) ?_
                          refine ww_sub [3, 4, 1, 5, 0] rfl ?_
                          exact ih_38 (t + 1) (n + 1) (by omega) (by rw [cnt_t (P := heP (M 31) (M 32) (beatZ (M 37) (M 31) (M 30 8)) v b) ⟨⟨c_52, by omega⟩, by omega, by omega⟩]; omega) (by omega)
            refine ww_sub [1, 2, 3, 4, 0] rfl ?_
            exact L_38 _ 0 n (by omega) (by rw [hn]; exact (Int.add_zero _).symm) (Nat.lt_succ_self _)
      refine ww_sub [2, 3, 1, 0] rfl ?_
      exact L_27 _ 0 0 (by omega) (rfl) (Nat.lt_succ_self _)
    · refine ww_iconst C dX6_held_21 ?_
      exact RT _ _ _ _ dX6_held_22 (by first | exact ⟨Or.inl ⟨by omega, rfl⟩, rfl⟩ | exact ⟨Or.inr ⟨by omega, z_10, hbe_10, Or.inl ⟨by omega, rfl⟩⟩, rfl⟩)
