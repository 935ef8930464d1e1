set_option maxRecDepth 100000 in
set_option maxHeartbeats 4000000 in
theorem ct_X6_meets (w : WLD) (M : Mem) (hs : SzOk (M 31)) (hnu : NuOk (M 37)) : CtI w yX6_meets cX6_meets 6 (some .boolean) rm_X6_meets [.ref (wa w 30)] M (fun z M1 => (z = 0 ∨ z = 1) ∧ (z = 1 ↔ metZ (M 37) (M 31)) ∧ M1 = M) := by
  refine CtI.ofZ (by decide) (Nat.le_of_ble_eq_true rfl) rfl rfl (fun z M9 h9 => h9.1) ?_
  intro k hkL C RT
  show WW w k 0 [(0, .ref (wa w 30))] [] M
  refine ww_iconst C dX6_meets_0 ?_
  refine ww_istore_n C dX6_meets_1 (lv' := [(1, .int (iZ 0)), (0, .ref (wa w 30))]) (by rw [hkL]; decide) rfl ?_
  have L_2 : ∀ (fuel : Nat) (i : Nat) (hi : (i : Int) ≤ M 31 0) (hI : ∀ i9 j9 l9 : Int, 0 ≤ i9 → i9 < (i : Int) → 1 - M 31 1 ≤ j9 → j9 < M 31 1 → 1 - M 31 2 ≤ l9 → l9 < M 31 2 → ¬ mzP (M 37) i9 j9 l9), 8 - i < fuel → WW w k 2 [(0, .ref (wa w 30)), (1, .int (iZ ((i : Nat) : Int)))] [] M := by
    intro fuel
    induction fuel with
    | zero => intro i hi hI hf_2; exact absurd hf_2 (Nat.not_lt_zero _)
    | succ fuel ih_2 =>
      intro i hi hI hf_2
      refine ww_iload_n C dX6_meets_2 1 rfl ?_
      refine ww_aload_n C dX6_meets_3 0 rfl ?_
      refine gt_X6_7 C dX6_meets_4 ?_
      refine ww_iconst C dX6_meets_7 ?_
      refine al_31 C 0 (z := M 31 0) rfl (by omega) rfl dX6_meets_8 ?_
      refine ww_icmp_ge C 163 dX6_meets_9 (by decide) (by omega) (by omega) (fun c_9 => ?_) (fun c_9 => ?_)
      · refine ww_iconst C dX6_meets_163 ?_
        exact RT _ _ _ _ dX6_meets_164 (⟨Or.inl rfl, ⟨fun h9 => by omega, fun ⟨i9, j9, l9, a1, a2, a3, a4, a5, a6, a7⟩ => absurd a7 (hI i9 j9 l9 a1 (by omega) a3 a4 a5 a6)⟩, rfl⟩)
      · refine ww_iconst C dX6_meets_12 ?_
        refine ww_aload_n C dX6_meets_13 0 rfl ?_
        refine gt_X6_7 C dX6_meets_14 ?_
        refine ww_iconst C dX6_meets_17 ?_
        refine al_31 C 1 (z := M 31 1) rfl (by omega) rfl dX6_meets_18 ?_
        refine ww_isub C dX6_meets_19 ?_
        refine ww_istore_n C dX6_meets_20 (lv' := [(2, .int (iZ (1 - (M 31 1)))), (0, .ref (wa w 30)), (1, .int (iZ ((i : Nat) : Int)))]) (by rw [hkL]; decide) rfl ?_
        have L_21 : ∀ (fuel : Nat) (j : Int) (hj : 1 - M 31 1 ≤ j ∧ j ≤ M 31 1) (hJ : ∀ j9 l9 : Int, 1 - M 31 1 ≤ j9 → j9 < j → 1 - M 31 2 ≤ l9 → l9 < M 31 2 → ¬ mzP (M 37) (i : Int) j9 l9), (M 31 1 - j).toNat < fuel → WW w k 21 [(0, .ref (wa w 30)), (1, .int (iZ ((i : Nat) : Int))), (2, .int (iZ j))] [] M := by
          intro fuel
          induction fuel with
          | zero => intro j hj hJ hf_21; exact absurd hf_21 (Nat.not_lt_zero _)
          | succ fuel ih_21 =>
            intro j hj hJ hf_21
            refine ww_iload_n C dX6_meets_21 2 rfl ?_
            refine ww_aload_n C dX6_meets_22 0 rfl ?_
            refine gt_X6_7 C dX6_meets_23 ?_
            refine ww_iconst C dX6_meets_26 ?_
            refine al_31 C 1 (z := M 31 1) rfl (by omega) rfl dX6_meets_27 ?_
            refine ww_icmp_ge C 157 dX6_meets_28 (by decide) (by omega) (by omega) (fun c_28 => ?_) (fun c_28 => ?_)
            · refine ww_iinc2 C dX6_meets_157 1 rfl (b := ((i + 1 : Nat) : Int)) (by omega) (lv' := [(1, .int (iZ ((i + 1 : Nat) : Int))), (0, .ref (wa w 30)), (2, .int (iZ j))]) (by rw [hkL]; decide) rfl ?_
              refine ww_goto C 2 dX6_meets_160 (by decide) ?_
              refine ww_sub [1, 0] rfl ?_
              exact ih_2 (i + 1) (by omega) (fun i9 j9 l9 h1 h2 h3 h4 h5 h6 => by rcases (show i9 < (i : Int) ∨ i9 = (i : Int) by omega) with e9 | e9; exact hI i9 j9 l9 h1 e9 h3 h4 h5 h6; (rw [e9]; exact hJ j9 l9 h3 (by omega) h5 h6)) (by omega)
            · refine ww_iconst C dX6_meets_31 ?_
              refine ww_aload_n C dX6_meets_32 0 rfl ?_
              refine gt_X6_7 C dX6_meets_33 ?_
              refine ww_iconst C dX6_meets_36 ?_
              refine al_31 C 2 (z := M 31 2) rfl (by omega) rfl dX6_meets_37 ?_
              refine ww_isub C dX6_meets_38 ?_
              refine ww_istore_n C dX6_meets_39 (lv' := [(3, .int (iZ (1 - (M 31 2)))), (0, .ref (wa w 30)), (1, .int (iZ ((i : Nat) : Int))), (2, .int (iZ j))]) (by rw [hkL]; decide) rfl ?_
              have L_40 : ∀ (fuel : Nat) (l : Int) (hl : 1 - M 31 2 ≤ l ∧ l ≤ M 31 2) (hL : ∀ l9 : Int, 1 - M 31 2 ≤ l9 → l9 < l → ¬ mzP (M 37) (i : Int) j l9), (M 31 2 - l).toNat < fuel → WW w k 40 [(0, .ref (wa w 30)), (1, .int (iZ ((i : Nat) : Int))), (2, .int (iZ j)), (3, .int (iZ l))] [] M := by
                intro fuel
                induction fuel with
                | zero => intro l hl hL hf_40; exact absurd hf_40 (Nat.not_lt_zero _)
                | succ fuel ih_40 =>
                  intro l hl hL hf_40
                  refine ww_iload_n C dX6_meets_40 3 rfl ?_
                  refine ww_aload_n C dX6_meets_41 0 rfl ?_
                  refine gt_X6_7 C dX6_meets_42 ?_
                  refine ww_iconst C dX6_meets_45 ?_
                  refine al_31 C 2 (z := M 31 2) rfl (by omega) rfl dX6_meets_46 ?_
                  refine ww_icmp_ge C 151 dX6_meets_47 (by decide) (by omega) (by omega) (fun c_47 => ?_) (fun c_47 => ?_)
                  · refine ww_iinc2 C dX6_meets_151 2 rfl (b := j + 1) (by omega) (lv' := [(2, .int (iZ (j + 1))), (0, .ref (wa w 30)), (1, .int (iZ ((i : Nat) : Int))), (3, .int (iZ l))]) (by rw [hkL]; decide) rfl ?_
                    refine ww_goto C 21 dX6_meets_154 (by decide) ?_
                    refine ww_sub [1, 2, 0] rfl ?_
                    exact ih_21 (j + 1) (by omega) (fun j9 l9 h3 h4 h5 h6 => by rcases (show j9 < j ∨ j9 = j by omega) with e9 | e9; exact hJ j9 l9 h3 e9 h5 h6; (rw [e9]; exact hL l9 h5 (by omega))) (by omega)
                  · have g0 := hnu 0 (by omega)
                    have g1 := hnu 1 (by omega)
                    have g2 := hnu 2 (by omega)
                    have g3 := hnu 3 (by omega)
                    have g4 := hnu 4 (by omega)
                    have g5 := hnu 5 (by omega)
                    have g6 := hnu 6 (by omega)
                    have g7 := hnu 7 (by omega)
                    have g8 := hnu 8 (by omega)
                    have e0 := mulb7 (b := (i : Int)) g0.1 g0.2 (by omega) (by omega)
                    have e1 := mulb7 (b := j) g1.1 g1.2 (by omega) (by omega)
                    have e2 := mulb7 (b := l) g2.1 g2.2 (by omega) (by omega)
                    have e3 := mulb7 (b := (i : Int)) g3.1 g3.2 (by omega) (by omega)
                    have e4 := mulb7 (b := j) g4.1 g4.2 (by omega) (by omega)
                    have e5 := mulb7 (b := l) g5.1 g5.2 (by omega) (by omega)
                    have e6 := mulb7 (b := (i : Int)) g6.1 g6.2 (by omega) (by omega)
                    have e7 := mulb7 (b := j) g7.1 g7.2 (by omega) (by omega)
                    have e8 := mulb7 (b := l) g8.1 g8.2 (by omega) (by omega)
                    refine ww_iload_n C dX6_meets_50 1 rfl ?_
                    refine ww_if_ne C 62 dX6_meets_51 (by decide) (by omega) (fun c_51 => ?_) (fun c_51 => ?_)
                    · refine ww_iconst C dX6_meets_62 ?_
                      refine ww_goto C 67 dX6_meets_63 (by decide) ?_
                      refine ww_istore C dX6_meets_67 (lv' := [(4, .int (iZ 1)), (0, .ref (wa w 30)), (1, .int (iZ ((i : Nat) : Int))), (2, .int (iZ j)), (3, .int (iZ l))]) (by rw [hkL]; decide) rfl ?_
                      refine ww_iconst C dX6_meets_69 ?_
                      refine ww_istore C dX6_meets_70 (lv' := [(5, .int (iZ 0)), (4, .int (iZ 1)), (0, .ref (wa w 30)), (1, .int (iZ ((i : Nat) : Int))), (2, .int (iZ j)), (3, .int (iZ l))]) (by rw [hkL]; decide) rfl ?_
                      refine ww_iload C dX6_meets_72 0 rfl ?_
                      refine ww_iconst C dX6_meets_74 ?_
                      refine ww_icmp_ge C 138 dX6_meets_75 (by decide) (by omega) (by omega) (fun c_75 => ?_) (fun c_75 => ?_)
                      · exact absurd c_75 (by decide)
                      · refine ww_iload C dX6_meets_78 1 rfl ?_
                        refine ww_if_eq C 138 dX6_meets_80 (by decide) (by omega) (fun c_80 => ?_) (fun c_80 => ?_)
                        · exact absurd c_80 (by decide)
                        · refine ww_aload_n C dX6_meets_83 2 rfl ?_
                          refine gt_X6_28 C dX6_meets_84 ?_
                          refine ww_iconst C dX6_meets_87 ?_
                          refine ww_iload C dX6_meets_88 0 rfl ?_
                          refine ww_imul C dX6_meets_90 ?_
                          refine ww_top (b := 0) (by decide) ?_
                          refine al_37 C 0 (z := M 37 0) rfl (by omega) rfl dX6_meets_91 ?_
                          refine ww_iload_n C dX6_meets_92 3 rfl ?_
                          refine ww_imul C dX6_meets_93 ?_
                          refine ww_aload_n C dX6_meets_94 2 rfl ?_
                          refine gt_X6_28 C dX6_meets_95 ?_
                          refine ww_iconst C dX6_meets_98 ?_
                          refine ww_iload C dX6_meets_99 0 rfl ?_
                          refine ww_imul C dX6_meets_101 ?_
                          refine ww_top (b := 0) (by decide) ?_
                          refine ww_iconst C dX6_meets_102 ?_
                          refine ww_iadd C dX6_meets_103 ?_
                          refine ww_top (b := 1) (by decide) ?_
                          refine al_37 C 1 (z := M 37 1) rfl (by omega) rfl dX6_meets_104 ?_
                          refine ww_iload_n C dX6_meets_105 4 rfl ?_
                          refine ww_imul C dX6_meets_106 ?_
                          refine ww_iadd C dX6_meets_107 ?_
                          refine ww_aload_n C dX6_meets_108 2 rfl ?_
                          refine gt_X6_28 C dX6_meets_109 ?_
                          refine ww_iconst C dX6_meets_112 ?_
                          refine ww_iload C dX6_meets_113 0 rfl ?_
                          refine ww_imul C dX6_meets_115 ?_
                          refine ww_top (b := 0) (by decide) ?_
                          refine ww_iconst C dX6_meets_116 ?_
                          refine ww_iadd C dX6_meets_117 ?_
                          refine ww_top (b := 2) (by decide) ?_
                          refine al_37 C 2 (z := M 37 2) rfl (by omega) rfl dX6_meets_118 ?_
                          refine ww_iload_n C dX6_meets_119 5 rfl ?_
                          refine ww_imul C dX6_meets_120 ?_
                          refine ww_iadd C dX6_meets_121 ?_
                          refine ww_if_ne C 129 dX6_meets_122 (by decide) (by omega) (fun c_122 => ?_) (fun c_122 => ?_)
                          · refine ww_iconst C dX6_meets_129 ?_
                            refine ww_istore C dX6_meets_130 (lv' := [(4, .int (iZ 0)), (5, .int (iZ 0)), (0, .ref (wa w 30)), (1, .int (iZ ((i : Nat) : Int))), (2, .int (iZ j)), (3, .int (iZ l))]) (by rw [hkL]; decide) rfl ?_
                            refine ww_iinc2 C dX6_meets_132 1 rfl (b := 1) (by omega) (lv' := [(5, .int (iZ 1)), (4, .int (iZ 0)), (0, .ref (wa w 30)), (1, .int (iZ ((i : Nat) : Int))), (2, .int (iZ j)), (3, .int (iZ l))]) (by rw [hkL]; decide) rfl ?_
                            refine ww_goto C 72 dX6_meets_135 (by decide) ?_
                            refine ww_iload C dX6_meets_72 0 rfl ?_
                            refine ww_iconst C dX6_meets_74 ?_
                            refine ww_icmp_ge C 138 dX6_meets_75 (by decide) (by omega) (by omega) (fun c_75 => ?_) (fun c_75 => ?_)
                            · exact absurd c_75 (by decide)
                            · refine ww_iload C dX6_meets_78 1 rfl ?_
                              refine ww_if_eq C 138 dX6_meets_80 (by decide) (by omega) (fun c_80 => ?_) (fun c_80 => ?_)
                              · refine ww_iload C dX6_meets_138 1 rfl ?_
                                refine ww_if_eq C 145 dX6_meets_140 (by decide) (by omega) (fun c_140 => ?_) (fun c_140 => ?_)
                                · refine ww_iinc2 C dX6_meets_145 5 rfl (b := l + 1) (by omega) (lv' := [(3, .int (iZ (l + 1))), (5, .int (iZ 1)), (4, .int (iZ 0)), (0, .ref (wa w 30)), (1, .int (iZ ((i : Nat) : Int))), (2, .int (iZ j))]) (by rw [hkL]; decide) rfl ?_
                                  refine ww_goto C 40 dX6_meets_148 (by decide) ?_
                                  refine ww_sub [3, 4, 5, 0] rfl ?_
                                  exact ih_40 (l + 1) (by omega) (fun l9 h5 h6 => by rcases (show l9 < l ∨ l9 = l by omega) with e9 | e9; exact hL l9 h5 e9; (rw [e9]; intro f9; unfold mzP at f9; omega)) (by omega)
                                · exact absurd c_140 (by decide)
                              · exact absurd c_80 (by decide)
                          · refine ww_iconst C dX6_meets_125 ?_
                            refine ww_goto C 130 dX6_meets_126 (by decide) ?_
                            refine ww_istore C dX6_meets_130 (lv' := [(4, .int (iZ 1)), (5, .int (iZ 0)), (0, .ref (wa w 30)), (1, .int (iZ ((i : Nat) : Int))), (2, .int (iZ j)), (3, .int (iZ l))]) (by rw [hkL]; decide) rfl ?_
                            refine ww_iinc2 C dX6_meets_132 1 rfl (b := 1) (by omega) (lv' := [(5, .int (iZ 1)), (4, .int (iZ 1)), (0, .ref (wa w 30)), (1, .int (iZ ((i : Nat) : Int))), (2, .int (iZ j)), (3, .int (iZ l))]) (by rw [hkL]; decide) rfl ?_
                            refine ww_goto C 72 dX6_meets_135 (by decide) ?_
                            refine ww_iload C dX6_meets_72 0 rfl ?_
                            refine ww_iconst C dX6_meets_74 ?_
                            refine ww_icmp_ge C 138 dX6_meets_75 (by decide) (by omega) (by omega) (fun c_75 => ?_) (fun c_75 => ?_)
                            · exact absurd c_75 (by decide)
                            · refine ww_iload C dX6_meets_78 1 rfl ?_
                              refine ww_if_eq C 138 dX6_meets_80 (by decide) (by omega) (fun c_80 => ?_) (fun c_80 => ?_)
                              · exact absurd c_80 (by decide)
                              · refine ww_aload_n C dX6_meets_83 2 rfl ?_
                                refine gt_X6_28 C dX6_meets_84 ?_
                                refine ww_iconst C dX6_meets_87 ?_
                                refine ww_iload C dX6_meets_88 0 rfl ?_
                                refine ww_imul C dX6_meets_90 ?_
                                refine ww_top (b := 3) (by decide) ?_
                                refine al_37 C 3 (z := M 37 3) rfl (by omega) rfl dX6_meets_91 ?_
                                refine ww_iload_n C dX6_meets_92 3 rfl ?_
                                refine ww_imul C dX6_meets_93 ?_
                                refine ww_aload_n C dX6_meets_94 2 rfl ?_
                                refine gt_X6_28 C dX6_meets_95 ?_
                                refine ww_iconst C dX6_meets_98 ?_
                                refine ww_iload C dX6_meets_99 0 rfl ?_
                                refine ww_imul C dX6_meets_101 ?_
                                refine ww_top (b := 3) (by decide) ?_
                                refine ww_iconst C dX6_meets_102 ?_
                                refine ww_iadd C dX6_meets_103 ?_
                                refine ww_top (b := 4) (by decide) ?_
                                refine al_37 C 4 (z := M 37 4) rfl (by omega) rfl dX6_meets_104 ?_
                                refine ww_iload_n C dX6_meets_105 4 rfl ?_
                                refine ww_imul C dX6_meets_106 ?_
                                refine ww_iadd C dX6_meets_107 ?_
                                refine ww_aload_n C dX6_meets_108 2 rfl ?_
                                refine gt_X6_28 C dX6_meets_109 ?_
                                refine ww_iconst C dX6_meets_112 ?_
                                refine ww_iload C dX6_meets_113 0 rfl ?_
                                refine ww_imul C dX6_meets_115 ?_
                                refine ww_top (b := 3) (by decide) ?_
                                refine ww_iconst C dX6_meets_116 ?_
                                refine ww_iadd C dX6_meets_117 ?_
                                refine ww_top (b := 5) (by decide) ?_
                                refine al_37 C 5 (z := M 37 5) rfl (by omega) rfl dX6_meets_118 ?_
                                refine ww_iload_n C dX6_meets_119 5 rfl ?_
                                refine ww_imul C dX6_meets_120 ?_
                                refine ww_iadd C dX6_meets_121 ?_
                                refine ww_if_ne C 129 dX6_meets_122 (by decide) (by omega) (fun c_122 => ?_) (fun c_122 => ?_)
                                · refine ww_iconst C dX6_meets_129 ?_
                                  refine ww_istore C dX6_meets_130 (lv' := [(4, .int (iZ 0)), (5, .int (iZ 1)), (0, .ref (wa w 30)), (1, .int (iZ ((i : Nat) : Int))), (2, .int (iZ j)), (3, .int (iZ l))]) (by rw [hkL]; decide) rfl ?_
                                  refine ww_iinc2 C dX6_meets_132 1 rfl (b := 2) (by omega) (lv' := [(5, .int (iZ 2)), (4, .int (iZ 0)), (0, .ref (wa w 30)), (1, .int (iZ ((i : Nat) : Int))), (2, .int (iZ j)), (3, .int (iZ l))]) (by rw [hkL]; decide) rfl ?_
                                  refine ww_goto C 72 dX6_meets_135 (by decide) ?_
                                  refine ww_iload C dX6_meets_72 0 rfl ?_
                                  refine ww_iconst C dX6_meets_74 ?_
                                  refine ww_icmp_ge C 138 dX6_meets_75 (by decide) (by omega) (by omega) (fun c_75 => ?_) (fun c_75 => ?_)
                                  · exact absurd c_75 (by decide)
                                  · refine ww_iload C dX6_meets_78 1 rfl ?_
                                    refine ww_if_eq C 138 dX6_meets_80 (by decide) (by omega) (fun c_80 => ?_) (fun c_80 => ?_)
                                    · refine ww_iload C dX6_meets_138 1 rfl ?_
                                      refine ww_if_eq C 145 dX6_meets_140 (by decide) (by omega) (fun c_140 => ?_) (fun c_140 => ?_)
                                      · refine ww_iinc2 C dX6_meets_145 5 rfl (b := l + 1) (by omega) (lv' := [(3, .int (iZ (l + 1))), (5, .int (iZ 2)), (4, .int (iZ 0)), (0, .ref (wa w 30)), (1, .int (iZ ((i : Nat) : Int))), (2, .int (iZ j))]) (by rw [hkL]; decide) rfl ?_
                                        refine ww_goto C 40 dX6_meets_148 (by decide) ?_
                                        refine ww_sub [3, 4, 5, 0] rfl ?_
                                        exact ih_40 (l + 1) (by omega) (fun l9 h5 h6 => by rcases (show l9 < l ∨ l9 = l by omega) with e9 | e9; exact hL l9 h5 e9; (rw [e9]; intro f9; unfold mzP at f9; omega)) (by omega)
                                      · exact absurd c_140 (by decide)
                                    · exact absurd c_80 (by decide)
                                · refine ww_iconst C dX6_meets_125 ?_
                                  refine ww_goto C 130 dX6_meets_126 (by decide) ?_
                                  refine ww_istore C dX6_meets_130 (lv' := [(4, .int (iZ 1)), (5, .int (iZ 1)), (0, .ref (wa w 30)), (1, .int (iZ ((i : Nat) : Int))), (2, .int (iZ j)), (3, .int (iZ l))]) (by rw [hkL]; decide) rfl ?_
                                  refine ww_iinc2 C dX6_meets_132 1 rfl (b := 2) (by omega) (lv' := [(5, .int (iZ 2)), (4, .int (iZ 1)), (0, .ref (wa w 30)), (1, .int (iZ ((i : Nat) : Int))), (2, .int (iZ j)), (3, .int (iZ l))]) (by rw [hkL]; decide) rfl ?_
                                  refine ww_goto C 72 dX6_meets_135 (by decide) ?_
                                  refine ww_iload C dX6_meets_72 0 rfl ?_
                                  refine ww_iconst C dX6_meets_74 ?_
                                  refine ww_icmp_ge C 138 dX6_meets_75 (by decide) (by omega) (by omega) (fun c_75 => ?_) (fun c_75 => ?_)
                                  · exact absurd c_75 (by decide)
                                  · refine ww_iload C dX6_meets_78 1 rfl ?_
                                    refine ww_if_eq C 138 dX6_meets_80 (by decide) (by omega) (fun c_80 => ?_) (fun c_80 => ?_)
                                    · exact absurd c_80 (by decide)
                                    · refine ww_aload_n C dX6_meets_83 2 rfl ?_
                                      refine gt_X6_28 C dX6_meets_84 ?_
                                      refine ww_iconst C dX6_meets_87 ?_
                                      refine ww_iload C dX6_meets_88 0 rfl ?_
                                      refine ww_imul C dX6_meets_90 ?_
                                      refine ww_top (b := 6) (by decide) ?_
                                      refine al_37 C 6 (z := M 37 6) rfl (by omega) rfl dX6_meets_91 ?_
                                      refine ww_iload_n C dX6_meets_92 3 rfl ?_
                                      refine ww_imul C dX6_meets_93 ?_
                                      refine ww_aload_n C dX6_meets_94 2 rfl ?_
                                      refine gt_X6_28 C dX6_meets_95 ?_
                                      refine ww_iconst C dX6_meets_98 ?_
                                      refine ww_iload C dX6_meets_99 0 rfl ?_
                                      refine ww_imul C dX6_meets_101 ?_
                                      refine ww_top (b := 6) (by decide) ?_
                                      refine ww_iconst C dX6_meets_102 ?_
                                      refine ww_iadd C dX6_meets_103 ?_
                                      refine ww_top (b := 7) (by decide) ?_
                                      refine al_37 C 7 (z := M 37 7) rfl (by omega) rfl dX6_meets_104 ?_
                                      refine ww_iload_n C dX6_meets_105 4 rfl ?_
                                      refine ww_imul C dX6_meets_106 ?_
                                      refine ww_iadd C dX6_meets_107 ?_
                                      refine ww_aload_n C dX6_meets_108 2 rfl ?_
                                      refine gt_X6_28 C dX6_meets_109 ?_
                                      refine ww_iconst C dX6_meets_112 ?_
                                      refine ww_iload C dX6_meets_113 0 rfl ?_
                                      refine ww_imul C dX6_meets_115 ?_
                                      refine ww_top (b := 6) (by decide) ?_
                                      refine ww_iconst C dX6_meets_116 ?_
                                      refine ww_iadd C dX6_meets_117 ?_
                                      refine ww_top (b := 8) (by decide) ?_
                                      refine al_37 C 8 (z := M 37 8) rfl (by omega) rfl dX6_meets_118 ?_
                                      refine ww_iload_n C dX6_meets_119 5 rfl ?_
                                      refine ww_imul C dX6_meets_120 ?_
                                      refine ww_iadd C dX6_meets_121 ?_
                                      refine ww_if_ne C 129 dX6_meets_122 (by decide) (by omega) (fun c_122 => ?_) (fun c_122 => ?_)
                                      · refine ww_iconst C dX6_meets_129 ?_
                                        refine ww_istore C dX6_meets_130 (lv' := [(4, .int (iZ 0)), (5, .int (iZ 2)), (0, .ref (wa w 30)), (1, .int (iZ ((i : Nat) : Int))), (2, .int (iZ j)), (3, .int (iZ l))]) (by rw [hkL]; decide) rfl ?_
                                        refine ww_iinc2 C dX6_meets_132 1 rfl (b := 3) (by omega) (lv' := [(5, .int (iZ 3)), (4, .int (iZ 0)), (0, .ref (wa w 30)), (1, .int (iZ ((i : Nat) : Int))), (2, .int (iZ j)), (3, .int (iZ l))]) (by rw [hkL]; decide) rfl ?_
                                        refine ww_goto C 72 dX6_meets_135 (by decide) ?_
                                        refine ww_iload C dX6_meets_72 0 rfl ?_
                                        refine ww_iconst C dX6_meets_74 ?_
                                        refine ww_icmp_ge C 138 dX6_meets_75 (by decide) (by omega) (by omega) (fun c_75 => ?_) (fun c_75 => ?_)
                                        · refine ww_iload C dX6_meets_138 1 rfl ?_
                                          refine ww_if_eq C 145 dX6_meets_140 (by decide) (by omega) (fun c_140 => ?_) (fun c_140 => ?_)
                                          · refine ww_iinc2 C dX6_meets_145 5 rfl (b := l + 1) (by omega) (lv' := [(3, .int (iZ (l + 1))), (5, .int (iZ 3)), (4, .int (iZ 0)), (0, .ref (wa w 30)), (1, .int (iZ ((i : Nat) : Int))), (2, .int (iZ j))]) (by rw [hkL]; decide) rfl ?_
                                            refine ww_goto C 40 dX6_meets_148 (by decide) ?_
                                            refine ww_sub [3, 4, 5, 0] rfl ?_
                                            exact ih_40 (l + 1) (by omega) (fun l9 h5 h6 => by rcases (show l9 < l ∨ l9 = l by omega) with e9 | e9; exact hL l9 h5 e9; (rw [e9]; intro f9; unfold mzP at f9; omega)) (by omega)
                                          · exact absurd c_140 (by decide)
                                        · exact absurd c_75 (by decide)
                                      · refine ww_iconst C dX6_meets_125 ?_
                                        refine ww_goto C 130 dX6_meets_126 (by decide) ?_
                                        refine ww_istore C dX6_meets_130 (lv' := [(4, .int (iZ 1)), (5, .int (iZ 2)), (0, .ref (wa w 30)), (1, .int (iZ ((i : Nat) : Int))), (2, .int (iZ j)), (3, .int (iZ l))]) (by rw [hkL]; decide) rfl ?_
                                        refine ww_iinc2 C dX6_meets_132 1 rfl (b := 3) (by omega) (lv' := [(5, .int (iZ 3)), (4, .int (iZ 1)), (0, .ref (wa w 30)), (1, .int (iZ ((i : Nat) : Int))), (2, .int (iZ j)), (3, .int (iZ l))]) (by rw [hkL]; decide) rfl ?_
                                        refine ww_goto C 72 dX6_meets_135 (by decide) ?_
                                        refine ww_iload C dX6_meets_72 0 rfl ?_
                                        refine ww_iconst C dX6_meets_74 ?_
                                        refine ww_icmp_ge C 138 dX6_meets_75 (by decide) (by omega) (by omega) (fun c_75 => ?_) (fun c_75 => ?_)
                                        · refine ww_iload C dX6_meets_138 1 rfl ?_
                                          refine ww_if_eq C 145 dX6_meets_140 (by decide) (by omega) (fun c_140 => ?_) (fun c_140 => ?_)
                                          · exact absurd c_140 (by decide)
                                          · refine ww_iconst C dX6_meets_143 ?_
                                            exact RT _ _ _ _ dX6_meets_144 (⟨Or.inr rfl, ⟨fun _ => ⟨(i : Int), j, l, by omega, by omega, by omega, by omega, by omega, by omega, ⟨by omega, by omega, by omega, by omega⟩⟩, fun _ => rfl⟩, rfl⟩)
                                        · exact absurd c_75 (by decide)
                    · refine ww_iload_n C dX6_meets_54 2 rfl ?_
                      refine ww_if_ne C 62 dX6_meets_55 (by decide) (by omega) (fun c_55 => ?_) (fun c_55 => ?_)
                      · refine ww_iconst C dX6_meets_62 ?_
                        refine ww_goto C 67 dX6_meets_63 (by decide) ?_
                        refine ww_istore C dX6_meets_67 (lv' := [(4, .int (iZ 1)), (0, .ref (wa w 30)), (1, .int (iZ ((i : Nat) : Int))), (2, .int (iZ j)), (3, .int (iZ l))]) (by rw [hkL]; decide) rfl ?_
                        refine ww_iconst C dX6_meets_69 ?_
                        refine ww_istore C dX6_meets_70 (lv' := [(5, .int (iZ 0)), (4, .int (iZ 1)), (0, .ref (wa w 30)), (1, .int (iZ ((i : Nat) : Int))), (2, .int (iZ j)), (3, .int (iZ l))]) (by rw [hkL]; decide) rfl ?_
                        refine ww_iload C dX6_meets_72 0 rfl ?_
                        refine ww_iconst C dX6_meets_74 ?_
                        refine ww_icmp_ge C 138 dX6_meets_75 (by decide) (by omega) (by omega) (fun c_75 => ?_) (fun c_75 => ?_)
                        · exact absurd c_75 (by decide)
                        · refine ww_iload C dX6_meets_78 1 rfl ?_
                          refine ww_if_eq C 138 dX6_meets_80 (by decide) (by omega) (fun c_80 => ?_) (fun c_80 => ?_)
                          · exact absurd c_80 (by decide)
                          · refine ww_aload_n C dX6_meets_83 2 rfl ?_
                            refine gt_X6_28 C dX6_meets_84 ?_
                            refine ww_iconst C dX6_meets_87 ?_
                            refine ww_iload C dX6_meets_88 0 rfl ?_
                            refine ww_imul C dX6_meets_90 ?_
                            refine ww_top (b := 0) (by decide) ?_
                            refine al_37 C 0 (z := M 37 0) rfl (by omega) rfl dX6_meets_91 ?_
                            refine ww_iload_n C dX6_meets_92 3 rfl ?_
                            refine ww_imul C dX6_meets_93 ?_
                            refine ww_aload_n C dX6_meets_94 2 rfl ?_
                            refine gt_X6_28 C dX6_meets_95 ?_
                            refine ww_iconst C dX6_meets_98 ?_
                            refine ww_iload C dX6_meets_99 0 rfl ?_
                            refine ww_imul C dX6_meets_101 ?_
                            refine ww_top (b := 0) (by decide) ?_
                            refine ww_iconst C dX6_meets_102 ?_
                            refine ww_iadd C dX6_meets_103 ?_
                            refine ww_top (b := 1) (by decide) ?_
                            refine al_37 C 1 (z := M 37 1) rfl (by omega) rfl dX6_meets_104 ?_
                            refine ww_iload_n C dX6_meets_105 4 rfl ?_
                            refine ww_imul C dX6_meets_106 ?_
                            refine ww_iadd C dX6_meets_107 ?_
                            refine ww_aload_n C dX6_meets_108 2 rfl ?_
                            refine gt_X6_28 C dX6_meets_109 ?_
                            refine ww_iconst C dX6_meets_112 ?_
                            refine ww_iload C dX6_meets_113 0 rfl ?_
                            refine ww_imul C dX6_meets_115 ?_
                            refine ww_top (b := 0) (by decide) ?_
                            refine ww_iconst C dX6_meets_116 ?_
                            refine ww_iadd C dX6_meets_117 ?_
                            refine ww_top (b := 2) (by decide) ?_
                            refine al_37 C 2 (z := M 37 2) rfl (by omega) rfl dX6_meets_118 ?_
                            refine ww_iload_n C dX6_meets_119 5 rfl ?_
                            refine ww_imul C dX6_meets_120 ?_
                            refine ww_iadd C dX6_meets_121 ?_
                            refine ww_if_ne C 129 dX6_meets_122 (by decide) (by omega) (fun c_122 => ?_) (fun c_122 => ?_)
                            · refine ww_iconst C dX6_meets_129 ?_
                              refine ww_istore C dX6_meets_130 (lv' := [(4, .int (iZ 0)), (5, .int (iZ 0)), (0, .ref (wa w 30)), (1, .int (iZ ((i : Nat) : Int))), (2, .int (iZ j)), (3, .int (iZ l))]) (by rw [hkL]; decide) rfl ?_
                              refine ww_iinc2 C dX6_meets_132 1 rfl (b := 1) (by omega) (lv' := [(5, .int (iZ 1)), (4, .int (iZ 0)), (0, .ref (wa w 30)), (1, .int (iZ ((i : Nat) : Int))), (2, .int (iZ j)), (3, .int (iZ l))]) (by rw [hkL]; decide) rfl ?_
                              refine ww_goto C 72 dX6_meets_135 (by decide) ?_
                              refine ww_iload C dX6_meets_72 0 rfl ?_
                              refine ww_iconst C dX6_meets_74 ?_
                              refine ww_icmp_ge C 138 dX6_meets_75 (by decide) (by omega) (by omega) (fun c_75 => ?_) (fun c_75 => ?_)
                              · exact absurd c_75 (by decide)
                              · refine ww_iload C dX6_meets_78 1 rfl ?_
                                refine ww_if_eq C 138 dX6_meets_80 (by decide) (by omega) (fun c_80 => ?_) (fun c_80 => ?_)
                                · refine ww_iload C dX6_meets_138 1 rfl ?_
                                  refine ww_if_eq C 145 dX6_meets_140 (by decide) (by omega) (fun c_140 => ?_) (fun c_140 => ?_)
                                  · refine ww_iinc2 C dX6_meets_145 5 rfl (b := l + 1) (by omega) (lv' := [(3, .int (iZ (l + 1))), (5, .int (iZ 1)), (4, .int (iZ 0)), (0, .ref (wa w 30)), (1, .int (iZ ((i : Nat) : Int))), (2, .int (iZ j))]) (by rw [hkL]; decide) rfl ?_
                                    refine ww_goto C 40 dX6_meets_148 (by decide) ?_
                                    refine ww_sub [3, 4, 5, 0] rfl ?_
                                    exact ih_40 (l + 1) (by omega) (fun l9 h5 h6 => by rcases (show l9 < l ∨ l9 = l by omega) with e9 | e9; exact hL l9 h5 e9; (rw [e9]; intro f9; unfold mzP at f9; omega)) (by omega)
                                  · exact absurd c_140 (by decide)
                                · exact absurd c_80 (by decide)
                            · refine ww_iconst C dX6_meets_125 ?_
                              refine ww_goto C 130 dX6_meets_126 (by decide) ?_
                              refine ww_istore C dX6_meets_130 (lv' := [(4, .int (iZ 1)), (5, .int (iZ 0)), (0, .ref (wa w 30)), (1, .int (iZ ((i : Nat) : Int))), (2, .int (iZ j)), (3, .int (iZ l))]) (by rw [hkL]; decide) rfl ?_
                              refine ww_iinc2 C dX6_meets_132 1 rfl (b := 1) (by omega) (lv' := [(5, .int (iZ 1)), (4, .int (iZ 1)), (0, .ref (wa w 30)), (1, .int (iZ ((i : Nat) : Int))), (2, .int (iZ j)), (3, .int (iZ l))]) (by rw [hkL]; decide) rfl ?_
                              refine ww_goto C 72 dX6_meets_135 (by decide) ?_
                              refine ww_iload C dX6_meets_72 0 rfl ?_
                              refine ww_iconst C dX6_meets_74 ?_
                              refine ww_icmp_ge C 138 dX6_meets_75 (by decide) (by omega) (by omega) (fun c_75 => ?_) (fun c_75 => ?_)
                              · exact absurd c_75 (by decide)
                              · refine ww_iload C dX6_meets_78 1 rfl ?_
                                refine ww_if_eq C 138 dX6_meets_80 (by decide) (by omega) (fun c_80 => ?_) (fun c_80 => ?_)
                                · exact absurd c_80 (by decide)
                                · refine ww_aload_n C dX6_meets_83 2 rfl ?_
                                  refine gt_X6_28 C dX6_meets_84 ?_
                                  refine ww_iconst C dX6_meets_87 ?_
                                  refine ww_iload C dX6_meets_88 0 rfl ?_
                                  refine ww_imul C dX6_meets_90 ?_
                                  refine ww_top (b := 3) (by decide) ?_
                                  refine al_37 C 3 (z := M 37 3) rfl (by omega) rfl dX6_meets_91 ?_
                                  refine ww_iload_n C dX6_meets_92 3 rfl ?_
                                  refine ww_imul C dX6_meets_93 ?_
                                  refine ww_aload_n C dX6_meets_94 2 rfl ?_
                                  refine gt_X6_28 C dX6_meets_95 ?_
                                  refine ww_iconst C dX6_meets_98 ?_
                                  refine ww_iload C dX6_meets_99 0 rfl ?_
                                  refine ww_imul C dX6_meets_101 ?_
                                  refine ww_top (b := 3) (by decide) ?_
                                  refine ww_iconst C dX6_meets_102 ?_
                                  refine ww_iadd C dX6_meets_103 ?_
                                  refine ww_top (b := 4) (by decide) ?_
                                  refine al_37 C 4 (z := M 37 4) rfl (by omega) rfl dX6_meets_104 ?_
                                  refine ww_iload_n C dX6_meets_105 4 rfl ?_
                                  refine ww_imul C dX6_meets_106 ?_
                                  refine ww_iadd C dX6_meets_107 ?_
                                  refine ww_aload_n C dX6_meets_108 2 rfl ?_
                                  refine gt_X6_28 C dX6_meets_109 ?_
                                  refine ww_iconst C dX6_meets_112 ?_
                                  refine ww_iload C dX6_meets_113 0 rfl ?_
                                  refine ww_imul C dX6_meets_115 ?_
                                  refine ww_top (b := 3) (by decide) ?_
                                  refine ww_iconst C dX6_meets_116 ?_
                                  refine ww_iadd C dX6_meets_117 ?_
                                  refine ww_top (b := 5) (by decide) ?_
                                  refine al_37 C 5 (z := M 37 5) rfl (by omega) rfl dX6_meets_118 ?_
                                  refine ww_iload_n C dX6_meets_119 5 rfl ?_
                                  refine ww_imul C dX6_meets_120 ?_
                                  refine ww_iadd C dX6_meets_121 ?_
                                  refine ww_if_ne C 129 dX6_meets_122 (by decide) (by omega) (fun c_122 => ?_) (fun c_122 => ?_)
                                  · refine ww_iconst C dX6_meets_129 ?_
                                    refine ww_istore C dX6_meets_130 (lv' := [(4, .int (iZ 0)), (5, .int (iZ 1)), (0, .ref (wa w 30)), (1, .int (iZ ((i : Nat) : Int))), (2, .int (iZ j)), (3, .int (iZ l))]) (by rw [hkL]; decide) rfl ?_
                                    refine ww_iinc2 C dX6_meets_132 1 rfl (b := 2) (by omega) (lv' := [(5, .int (iZ 2)), (4, .int (iZ 0)), (0, .ref (wa w 30)), (1, .int (iZ ((i : Nat) : Int))), (2, .int (iZ j)), (3, .int (iZ l))]) (by rw [hkL]; decide) rfl ?_
                                    refine ww_goto C 72 dX6_meets_135 (by decide) ?_
                                    refine ww_iload C dX6_meets_72 0 rfl ?_
                                    refine ww_iconst C dX6_meets_74 ?_
                                    refine ww_icmp_ge C 138 dX6_meets_75 (by decide) (by omega) (by omega) (fun c_75 => ?_) (fun c_75 => ?_)
                                    · exact absurd c_75 (by decide)
                                    · refine ww_iload C dX6_meets_78 1 rfl ?_
                                      refine ww_if_eq C 138 dX6_meets_80 (by decide) (by omega) (fun c_80 => ?_) (fun c_80 => ?_)
                                      · refine ww_iload C dX6_meets_138 1 rfl ?_
                                        refine ww_if_eq C 145 dX6_meets_140 (by decide) (by omega) (fun c_140 => ?_) (fun c_140 => ?_)
                                        · refine ww_iinc2 C dX6_meets_145 5 rfl (b := l + 1) (by omega) (lv' := [(3, .int (iZ (l + 1))), (5, .int (iZ 2)), (4, .int (iZ 0)), (0, .ref (wa w 30)), (1, .int (iZ ((i : Nat) : Int))), (2, .int (iZ j))]) (by rw [hkL]; decide) rfl ?_
                                          refine ww_goto C 40 dX6_meets_148 (by decide) ?_
                                          refine ww_sub [3, 4, 5, 0] rfl ?_
                                          exact ih_40 (l + 1) (by omega) (fun l9 h5 h6 => by rcases (show l9 < l ∨ l9 = l by omega) with e9 | e9; exact hL l9 h5 e9; (rw [e9]; intro f9; unfold mzP at f9; omega)) (by omega)
                                        · exact absurd c_140 (by decide)
                                      · exact absurd c_80 (by decide)
                                  · refine ww_iconst C dX6_meets_125 ?_
                                    refine ww_goto C 130 dX6_meets_126 (by decide) ?_
                                    refine ww_istore C dX6_meets_130 (lv' := [(4, .int (iZ 1)), (5, .int (iZ 1)), (0, .ref (wa w 30)), (1, .int (iZ ((i : Nat) : Int))), (2, .int (iZ j)), (3, .int (iZ l))]) (by rw [hkL]; decide) rfl ?_
                                    refine ww_iinc2 C dX6_meets_132 1 rfl (b := 2) (by omega) (lv' := [(5, .int (iZ 2)), (4, .int (iZ 1)), (0, .ref (wa w 30)), (1, .int (iZ ((i : Nat) : Int))), (2, .int (iZ j)), (3, .int (iZ l))]) (by rw [hkL]; decide) rfl ?_
                                    refine ww_goto C 72 dX6_meets_135 (by decide) ?_
                                    refine ww_iload C dX6_meets_72 0 rfl ?_
                                    refine ww_iconst C dX6_meets_74 ?_
                                    refine ww_icmp_ge C 138 dX6_meets_75 (by decide) (by omega) (by omega) (fun c_75 => ?_) (fun c_75 => ?_)
                                    · exact absurd c_75 (by decide)
                                    · refine ww_iload C dX6_meets_78 1 rfl ?_
                                      refine ww_if_eq C 138 dX6_meets_80 (by decide) (by omega) (fun c_80 => ?_) (fun c_80 => ?_)
                                      · exact absurd c_80 (by decide)
                                      · refine ww_aload_n C dX6_meets_83 2 rfl ?_
                                        refine gt_X6_28 C dX6_meets_84 ?_
                                        refine ww_iconst C dX6_meets_87 ?_
                                        refine ww_iload C dX6_meets_88 0 rfl ?_
                                        refine ww_imul C dX6_meets_90 ?_
                                        refine ww_top (b := 6) (by decide) ?_
                                        refine al_37 C 6 (z := M 37 6) rfl (by omega) rfl dX6_meets_91 ?_
                                        refine ww_iload_n C dX6_meets_92 3 rfl ?_
                                        refine ww_imul C dX6_meets_93 ?_
                                        refine ww_aload_n C dX6_meets_94 2 rfl ?_
                                        refine gt_X6_28 C dX6_meets_95 ?_
                                        refine ww_iconst C dX6_meets_98 ?_
                                        refine ww_iload C dX6_meets_99 0 rfl ?_
                                        refine ww_imul C dX6_meets_101 ?_
                                        refine ww_top (b := 6) (by decide) ?_
                                        refine ww_iconst C dX6_meets_102 ?_
                                        refine ww_iadd C dX6_meets_103 ?_
                                        refine ww_top (b := 7) (by decide) ?_
                                        refine al_37 C 7 (z := M 37 7) rfl (by omega) rfl dX6_meets_104 ?_
                                        refine ww_iload_n C dX6_meets_105 4 rfl ?_
                                        refine ww_imul C dX6_meets_106 ?_
                                        refine ww_iadd C dX6_meets_107 ?_
                                        refine ww_aload_n C dX6_meets_108 2 rfl ?_
                                        refine gt_X6_28 C dX6_meets_109 ?_
                                        refine ww_iconst C dX6_meets_112 ?_
                                        refine ww_iload C dX6_meets_113 0 rfl ?_
                                        refine ww_imul C dX6_meets_115 ?_
                                        refine ww_top (b := 6) (by decide) ?_
                                        refine ww_iconst C dX6_meets_116 ?_
                                        refine ww_iadd C dX6_meets_117 ?_
                                        refine ww_top (b := 8) (by decide) ?_
                                        refine al_37 C 8 (z := M 37 8) rfl (by omega) rfl dX6_meets_118 ?_
                                        refine ww_iload_n C dX6_meets_119 5 rfl ?_
                                        refine ww_imul C dX6_meets_120 ?_
                                        refine ww_iadd C dX6_meets_121 ?_
                                        refine ww_if_ne C 129 dX6_meets_122 (by decide) (by omega) (fun c_122 => ?_) (fun c_122 => ?_)
                                        · refine ww_iconst C dX6_meets_129 ?_
                                          refine ww_istore C dX6_meets_130 (lv' := [(4, .int (iZ 0)), (5, .int (iZ 2)), (0, .ref (wa w 30)), (1, .int (iZ ((i : Nat) : Int))), (2, .int (iZ j)), (3, .int (iZ l))]) (by rw [hkL]; decide) rfl ?_
                                          refine ww_iinc2 C dX6_meets_132 1 rfl (b := 3) (by omega) (lv' := [(5, .int (iZ 3)), (4, .int (iZ 0)), (0, .ref (wa w 30)), (1, .int (iZ ((i : Nat) : Int))), (2, .int (iZ j)), (3, .int (iZ l))]) (by rw [hkL]; decide) rfl ?_
                                          refine ww_goto C 72 dX6_meets_135 (by decide) ?_
                                          refine ww_iload C dX6_meets_72 0 rfl ?_
                                          refine ww_iconst C dX6_meets_74 ?_
                                          refine ww_icmp_ge C 138 dX6_meets_75 (by decide) (by omega) (by omega) (fun c_75 => ?_) (fun c_75 => ?_)
                                          · refine ww_iload C dX6_meets_138 1 rfl ?_
                                            refine ww_if_eq C 145 dX6_meets_140 (by decide) (by omega) (fun c_140 => ?_) (fun c_140 => ?_)
                                            · refine ww_iinc2 C dX6_meets_145 5 rfl (b := l + 1) (by omega) (lv' := [(3, .int (iZ (l + 1))), (5, .int (iZ 3)), (4, .int (iZ 0)), (0, .ref (wa w 30)), (1, .int (iZ ((i : Nat) : Int))), (2, .int (iZ j))]) (by rw [hkL]; decide) rfl ?_
                                              refine ww_goto C 40 dX6_meets_148 (by decide) ?_
                                              refine ww_sub [3, 4, 5, 0] rfl ?_
                                              exact ih_40 (l + 1) (by omega) (fun l9 h5 h6 => by rcases (show l9 < l ∨ l9 = l by omega) with e9 | e9; exact hL l9 h5 e9; (rw [e9]; intro f9; unfold mzP at f9; omega)) (by omega)
                                            · exact absurd c_140 (by decide)
                                          · exact absurd c_75 (by decide)
                                        · refine ww_iconst C dX6_meets_125 ?_
                                          refine ww_goto C 130 dX6_meets_126 (by decide) ?_
                                          refine ww_istore C dX6_meets_130 (lv' := [(4, .int (iZ 1)), (5, .int (iZ 2)), (0, .ref (wa w 30)), (1, .int (iZ ((i : Nat) : Int))), (2, .int (iZ j)), (3, .int (iZ l))]) (by rw [hkL]; decide) rfl ?_
                                          refine ww_iinc2 C dX6_meets_132 1 rfl (b := 3) (by omega) (lv' := [(5, .int (iZ 3)), (4, .int (iZ 1)), (0, .ref (wa w 30)), (1, .int (iZ ((i : Nat) : Int))), (2, .int (iZ j)), (3, .int (iZ l))]) (by rw [hkL]; decide) rfl ?_
                                          refine ww_goto C 72 dX6_meets_135 (by decide) ?_
                                          refine ww_iload C dX6_meets_72 0 rfl ?_
                                          refine ww_iconst C dX6_meets_74 ?_
                                          refine ww_icmp_ge C 138 dX6_meets_75 (by decide) (by omega) (by omega) (fun c_75 => ?_) (fun c_75 => ?_)
                                          · refine ww_iload C dX6_meets_138 1 rfl ?_
                                            refine ww_if_eq C 145 dX6_meets_140 (by decide) (by omega) (fun c_140 => ?_) (fun c_140 => ?_)
                                            · exact absurd c_140 (by decide)
                                            · refine ww_iconst C dX6_meets_143 ?_
                                              exact RT _ _ _ _ dX6_meets_144 (⟨Or.inr rfl, ⟨fun _ => ⟨(i : Int), j, l, by omega, by omega, by omega, by omega, by omega, by omega, ⟨by omega, by omega, by omega, by omega⟩⟩, fun _ => rfl⟩, rfl⟩)
                                          · exact absurd c_75 (by decide)
                      · refine ww_iload_n C dX6_meets_58 3 rfl ?_
                        refine ww_if_eq C 66 dX6_meets_59 (by decide) (by omega) (fun c_59 => ?_) (fun c_59 => ?_)
                        · refine ww_iconst C dX6_meets_66 ?_
                          refine ww_istore C dX6_meets_67 (lv' := [(4, .int (iZ 0)), (0, .ref (wa w 30)), (1, .int (iZ ((i : Nat) : Int))), (2, .int (iZ j)), (3, .int (iZ l))]) (by rw [hkL]; decide) rfl ?_
                          refine ww_iconst C dX6_meets_69 ?_
                          refine ww_istore C dX6_meets_70 (lv' := [(5, .int (iZ 0)), (4, .int (iZ 0)), (0, .ref (wa w 30)), (1, .int (iZ ((i : Nat) : Int))), (2, .int (iZ j)), (3, .int (iZ l))]) (by rw [hkL]; decide) rfl ?_
                          refine ww_iload C dX6_meets_72 0 rfl ?_
                          refine ww_iconst C dX6_meets_74 ?_
                          refine ww_icmp_ge C 138 dX6_meets_75 (by decide) (by omega) (by omega) (fun c_75 => ?_) (fun c_75 => ?_)
                          · exact absurd c_75 (by decide)
                          · refine ww_iload C dX6_meets_78 1 rfl ?_
                            refine ww_if_eq C 138 dX6_meets_80 (by decide) (by omega) (fun c_80 => ?_) (fun c_80 => ?_)
                            · refine ww_iload C dX6_meets_138 1 rfl ?_
                              refine ww_if_eq C 145 dX6_meets_140 (by decide) (by omega) (fun c_140 => ?_) (fun c_140 => ?_)
                              · refine ww_iinc2 C dX6_meets_145 5 rfl (b := l + 1) (by omega) (lv' := [(3, .int (iZ (l + 1))), (5, .int (iZ 0)), (4, .int (iZ 0)), (0, .ref (wa w 30)), (1, .int (iZ ((i : Nat) : Int))), (2, .int (iZ j))]) (by rw [hkL]; decide) rfl ?_
                                refine ww_goto C 40 dX6_meets_148 (by decide) ?_
                                refine ww_sub [3, 4, 5, 0] rfl ?_
                                exact ih_40 (l + 1) (by omega) (fun l9 h5 h6 => by rcases (show l9 < l ∨ l9 = l by omega) with e9 | e9; exact hL l9 h5 e9; (rw [e9]; intro f9; unfold mzP at f9; omega)) (by omega)
                              · exact absurd c_140 (by decide)
                            · exact absurd c_80 (by decide)
                        · refine ww_iconst C dX6_meets_62 ?_
                          refine ww_goto C 67 dX6_meets_63 (by decide) ?_
                          refine ww_istore C dX6_meets_67 (lv' := [(4, .int (iZ 1)), (0, .ref (wa w 30)), (1, .int (iZ ((i : Nat) : Int))), (2, .int (iZ j)), (3, .int (iZ l))]) (by rw [hkL]; decide) rfl ?_
                          refine ww_iconst C dX6_meets_69 ?_
                          refine ww_istore C dX6_meets_70 (lv' := [(5, .int (iZ 0)), (4, .int (iZ 1)), (0, .ref (wa w 30)), (1, .int (iZ ((i : Nat) : Int))), (2, .int (iZ j)), (3, .int (iZ l))]) (by rw [hkL]; decide) rfl ?_
                          refine ww_iload C dX6_meets_72 0 rfl ?_
                          refine ww_iconst C dX6_meets_74 ?_
                          refine ww_icmp_ge C 138 dX6_meets_75 (by decide) (by omega) (by omega) (fun c_75 => ?_) (fun c_75 => ?_)
                          · exact absurd c_75 (by decide)
                          · refine ww_iload C dX6_meets_78 1 rfl ?_
                            refine ww_if_eq C 138 dX6_meets_80 (by decide) (by omega) (fun c_80 => ?_) (fun c_80 => ?_)
                            · exact absurd c_80 (by decide)
                            · refine ww_aload_n C dX6_meets_83 2 rfl ?_
                              refine gt_X6_28 C dX6_meets_84 ?_
                              refine ww_iconst C dX6_meets_87 ?_
                              refine ww_iload C dX6_meets_88 0 rfl ?_
                              refine ww_imul C dX6_meets_90 ?_
                              refine ww_top (b := 0) (by decide) ?_
                              refine al_37 C 0 (z := M 37 0) rfl (by omega) rfl dX6_meets_91 ?_
                              refine ww_iload_n C dX6_meets_92 3 rfl ?_
                              refine ww_imul C dX6_meets_93 ?_
                              refine ww_aload_n C dX6_meets_94 2 rfl ?_
                              refine gt_X6_28 C dX6_meets_95 ?_
                              refine ww_iconst C dX6_meets_98 ?_
                              refine ww_iload C dX6_meets_99 0 rfl ?_
                              refine ww_imul C dX6_meets_101 ?_
                              refine ww_top (b := 0) (by decide) ?_
                              refine ww_iconst C dX6_meets_102 ?_
                              refine ww_iadd C dX6_meets_103 ?_
                              refine ww_top (b := 1) (by decide) ?_
                              refine al_37 C 1 (z := M 37 1) rfl (by omega) rfl dX6_meets_104 ?_
                              refine ww_iload_n C dX6_meets_105 4 rfl ?_
                              refine ww_imul C dX6_meets_106 ?_
                              refine ww_iadd C dX6_meets_107 ?_
                              refine ww_aload_n C dX6_meets_108 2 rfl ?_
                              refine gt_X6_28 C dX6_meets_109 ?_
                              refine ww_iconst C dX6_meets_112 ?_
                              refine ww_iload C dX6_meets_113 0 rfl ?_
                              refine ww_imul C dX6_meets_115 ?_
                              refine ww_top (b := 0) (by decide) ?_
                              refine ww_iconst C dX6_meets_116 ?_
                              refine ww_iadd C dX6_meets_117 ?_
                              refine ww_top (b := 2) (by decide) ?_
                              refine al_37 C 2 (z := M 37 2) rfl (by omega) rfl dX6_meets_118 ?_
                              refine ww_iload_n C dX6_meets_119 5 rfl ?_
                              refine ww_imul C dX6_meets_120 ?_
                              refine ww_iadd C dX6_meets_121 ?_
                              refine ww_if_ne C 129 dX6_meets_122 (by decide) (by omega) (fun c_122 => ?_) (fun c_122 => ?_)
                              · refine ww_iconst C dX6_meets_129 ?_
                                refine ww_istore C dX6_meets_130 (lv' := [(4, .int (iZ 0)), (5, .int (iZ 0)), (0, .ref (wa w 30)), (1, .int (iZ ((i : Nat) : Int))), (2, .int (iZ j)), (3, .int (iZ l))]) (by rw [hkL]; decide) rfl ?_
                                refine ww_iinc2 C dX6_meets_132 1 rfl (b := 1) (by omega) (lv' := [(5, .int (iZ 1)), (4, .int (iZ 0)), (0, .ref (wa w 30)), (1, .int (iZ ((i : Nat) : Int))), (2, .int (iZ j)), (3, .int (iZ l))]) (by rw [hkL]; decide) rfl ?_
                                refine ww_goto C 72 dX6_meets_135 (by decide) ?_
                                refine ww_iload C dX6_meets_72 0 rfl ?_
                                refine ww_iconst C dX6_meets_74 ?_
                                refine ww_icmp_ge C 138 dX6_meets_75 (by decide) (by omega) (by omega) (fun c_75 => ?_) (fun c_75 => ?_)
                                · exact absurd c_75 (by decide)
                                · refine ww_iload C dX6_meets_78 1 rfl ?_
                                  refine ww_if_eq C 138 dX6_meets_80 (by decide) (by omega) (fun c_80 => ?_) (fun c_80 => ?_)
                                  · refine ww_iload C dX6_meets_138 1 rfl ?_
                                    refine ww_if_eq C 145 dX6_meets_140 (by decide) (by omega) (fun c_140 => ?_) (fun c_140 => ?_)
                                    · refine ww_iinc2 C dX6_meets_145 5 rfl (b := l + 1) (by omega) (lv' := [(3, .int (iZ (l + 1))), (5, .int (iZ 1)), (4, .int (iZ 0)), (0, .ref (wa w 30)), (1, .int (iZ ((i : Nat) : Int))), (2, .int (iZ j))]) (by rw [hkL]; decide) rfl ?_
                                      refine ww_goto C 40 dX6_meets_148 (by decide) ?_
                                      refine ww_sub [3, 4, 5, 0] rfl ?_
                                      exact ih_40 (l + 1) (by omega) (fun l9 h5 h6 => by rcases (show l9 < l ∨ l9 = l by omega) with e9 | e9; exact hL l9 h5 e9; (rw [e9]; intro f9; unfold mzP at f9; omega)) (by omega)
                                    · exact absurd c_140 (by decide)
                                  · exact absurd c_80 (by decide)
                              · refine ww_iconst C dX6_meets_125 ?_
                                refine ww_goto C 130 dX6_meets_126 (by decide) ?_
                                refine ww_istore C dX6_meets_130 (lv' := [(4, .int (iZ 1)), (5, .int (iZ 0)), (0, .ref (wa w 30)), (1, .int (iZ ((i : Nat) : Int))), (2, .int (iZ j)), (3, .int (iZ l))]) (by rw [hkL]; decide) rfl ?_
                                refine ww_iinc2 C dX6_meets_132 1 rfl (b := 1) (by omega) (lv' := [(5, .int (iZ 1)), (4, .int (iZ 1)), (0, .ref (wa w 30)), (1, .int (iZ ((i : Nat) : Int))), (2, .int (iZ j)), (3, .int (iZ l))]) (by rw [hkL]; decide) rfl ?_
                                refine ww_goto C 72 dX6_meets_135 (by decide) ?_
                                refine ww_iload C dX6_meets_72 0 rfl ?_
                                refine ww_iconst C dX6_meets_74 ?_
                                refine ww_icmp_ge C 138 dX6_meets_75 (by decide) (by omega) (by omega) (fun c_75 => ?_) (fun c_75 => ?_)
                                · exact absurd c_75 (by decide)
                                · refine ww_iload C dX6_meets_78 1 rfl ?_
                                  refine ww_if_eq C 138 dX6_meets_80 (by decide) (by omega) (fun c_80 => ?_) (fun c_80 => ?_)
                                  · exact absurd c_80 (by decide)
                                  · refine ww_aload_n C dX6_meets_83 2 rfl ?_
                                    refine gt_X6_28 C dX6_meets_84 ?_
                                    refine ww_iconst C dX6_meets_87 ?_
                                    refine ww_iload C dX6_meets_88 0 rfl ?_
                                    refine ww_imul C dX6_meets_90 ?_
                                    refine ww_top (b := 3) (by decide) ?_
                                    refine al_37 C 3 (z := M 37 3) rfl (by omega) rfl dX6_meets_91 ?_
                                    refine ww_iload_n C dX6_meets_92 3 rfl ?_
                                    refine ww_imul C dX6_meets_93 ?_
                                    refine ww_aload_n C dX6_meets_94 2 rfl ?_
                                    refine gt_X6_28 C dX6_meets_95 ?_
                                    refine ww_iconst C dX6_meets_98 ?_
                                    refine ww_iload C dX6_meets_99 0 rfl ?_
                                    refine ww_imul C dX6_meets_101 ?_
                                    refine ww_top (b := 3) (by decide) ?_
                                    refine ww_iconst C dX6_meets_102 ?_
                                    refine ww_iadd C dX6_meets_103 ?_
                                    refine ww_top (b := 4) (by decide) ?_
                                    refine al_37 C 4 (z := M 37 4) rfl (by omega) rfl dX6_meets_104 ?_
                                    refine ww_iload_n C dX6_meets_105 4 rfl ?_
                                    refine ww_imul C dX6_meets_106 ?_
                                    refine ww_iadd C dX6_meets_107 ?_
                                    refine ww_aload_n C dX6_meets_108 2 rfl ?_
                                    refine gt_X6_28 C dX6_meets_109 ?_
                                    refine ww_iconst C dX6_meets_112 ?_
                                    refine ww_iload C dX6_meets_113 0 rfl ?_
                                    refine ww_imul C dX6_meets_115 ?_
                                    refine ww_top (b := 3) (by decide) ?_
                                    refine ww_iconst C dX6_meets_116 ?_
                                    refine ww_iadd C dX6_meets_117 ?_
                                    refine ww_top (b := 5) (by decide) ?_
                                    refine al_37 C 5 (z := M 37 5) rfl (by omega) rfl dX6_meets_118 ?_
                                    refine ww_iload_n C dX6_meets_119 5 rfl ?_
                                    refine ww_imul C dX6_meets_120 ?_
                                    refine ww_iadd C dX6_meets_121 ?_
                                    refine ww_if_ne C 129 dX6_meets_122 (by decide) (by omega) (fun c_122 => ?_) (fun c_122 => ?_)
                                    · refine ww_iconst C dX6_meets_129 ?_
                                      refine ww_istore C dX6_meets_130 (lv' := [(4, .int (iZ 0)), (5, .int (iZ 1)), (0, .ref (wa w 30)), (1, .int (iZ ((i : Nat) : Int))), (2, .int (iZ j)), (3, .int (iZ l))]) (by rw [hkL]; decide) rfl ?_
                                      refine ww_iinc2 C dX6_meets_132 1 rfl (b := 2) (by omega) (lv' := [(5, .int (iZ 2)), (4, .int (iZ 0)), (0, .ref (wa w 30)), (1, .int (iZ ((i : Nat) : Int))), (2, .int (iZ j)), (3, .int (iZ l))]) (by rw [hkL]; decide) rfl ?_
                                      refine ww_goto C 72 dX6_meets_135 (by decide) ?_
                                      refine ww_iload C dX6_meets_72 0 rfl ?_
                                      refine ww_iconst C dX6_meets_74 ?_
                                      refine ww_icmp_ge C 138 dX6_meets_75 (by decide) (by omega) (by omega) (fun c_75 => ?_) (fun c_75 => ?_)
                                      · exact absurd c_75 (by decide)
                                      · refine ww_iload C dX6_meets_78 1 rfl ?_
                                        refine ww_if_eq C 138 dX6_meets_80 (by decide) (by omega) (fun c_80 => ?_) (fun c_80 => ?_)
                                        · refine ww_iload C dX6_meets_138 1 rfl ?_
                                          refine ww_if_eq C 145 dX6_meets_140 (by decide) (by omega) (fun c_140 => ?_) (fun c_140 => ?_)
                                          · refine ww_iinc2 C dX6_meets_145 5 rfl (b := l + 1) (by omega) (lv' := [(3, .int (iZ (l + 1))), (5, .int (iZ 2)), (4, .int (iZ 0)), (0, .ref (wa w 30)), (1, .int (iZ ((i : Nat) : Int))), (2, .int (iZ j))]) (by rw [hkL]; decide) rfl ?_
                                            refine ww_goto C 40 dX6_meets_148 (by decide) ?_
                                            refine ww_sub [3, 4, 5, 0] rfl ?_
                                            exact ih_40 (l + 1) (by omega) (fun l9 h5 h6 => by rcases (show l9 < l ∨ l9 = l by omega) with e9 | e9; exact hL l9 h5 e9; (rw [e9]; intro f9; unfold mzP at f9; omega)) (by omega)
                                          · exact absurd c_140 (by decide)
                                        · exact absurd c_80 (by decide)
                                    · refine ww_iconst C dX6_meets_125 ?_
                                      refine ww_goto C 130 dX6_meets_126 (by decide) ?_
                                      refine ww_istore C dX6_meets_130 (lv' := [(4, .int (iZ 1)), (5, .int (iZ 1)), (0, .ref (wa w 30)), (1, .int (iZ ((i : Nat) : Int))), (2, .int (iZ j)), (3, .int (iZ l))]) (by rw [hkL]; decide) rfl ?_
                                      refine ww_iinc2 C dX6_meets_132 1 rfl (b := 2) (by omega) (lv' := [(5, .int (iZ 2)), (4, .int (iZ 1)), (0, .ref (wa w 30)), (1, .int (iZ ((i : Nat) : Int))), (2, .int (iZ j)), (3, .int (iZ l))]) (by rw [hkL]; decide) rfl ?_
                                      refine ww_goto C 72 dX6_meets_135 (by decide) ?_
                                      refine ww_iload C dX6_meets_72 0 rfl ?_
                                      refine ww_iconst C dX6_meets_74 ?_
                                      refine ww_icmp_ge C 138 dX6_meets_75 (by decide) (by omega) (by omega) (fun c_75 => ?_) (fun c_75 => ?_)
                                      · exact absurd c_75 (by decide)
                                      · refine ww_iload C dX6_meets_78 1 rfl ?_
                                        refine ww_if_eq C 138 dX6_meets_80 (by decide) (by omega) (fun c_80 => ?_) (fun c_80 => ?_)
                                        · exact absurd c_80 (by decide)
                                        · refine ww_aload_n C dX6_meets_83 2 rfl ?_
                                          refine gt_X6_28 C dX6_meets_84 ?_
                                          refine ww_iconst C dX6_meets_87 ?_
                                          refine ww_iload C dX6_meets_88 0 rfl ?_
                                          refine ww_imul C dX6_meets_90 ?_
                                          refine ww_top (b := 6) (by decide) ?_
                                          refine al_37 C 6 (z := M 37 6) rfl (by omega) rfl dX6_meets_91 ?_
                                          refine ww_iload_n C dX6_meets_92 3 rfl ?_
                                          refine ww_imul C dX6_meets_93 ?_
                                          refine ww_aload_n C dX6_meets_94 2 rfl ?_
                                          refine gt_X6_28 C dX6_meets_95 ?_
                                          refine ww_iconst C dX6_meets_98 ?_
                                          refine ww_iload C dX6_meets_99 0 rfl ?_
                                          refine ww_imul C dX6_meets_101 ?_
                                          refine ww_top (b := 6) (by decide) ?_
                                          refine ww_iconst C dX6_meets_102 ?_
                                          refine ww_iadd C dX6_meets_103 ?_
                                          refine ww_top (b := 7) (by decide) ?_
                                          refine al_37 C 7 (z := M 37 7) rfl (by omega) rfl dX6_meets_104 ?_
                                          refine ww_iload_n C dX6_meets_105 4 rfl ?_
                                          refine ww_imul C dX6_meets_106 ?_
                                          refine ww_iadd C dX6_meets_107 ?_
                                          refine ww_aload_n C dX6_meets_108 2 rfl ?_
                                          refine gt_X6_28 C dX6_meets_109 ?_
                                          refine ww_iconst C dX6_meets_112 ?_
                                          refine ww_iload C dX6_meets_113 0 rfl ?_
                                          refine ww_imul C dX6_meets_115 ?_
                                          refine ww_top (b := 6) (by decide) ?_
                                          refine ww_iconst C dX6_meets_116 ?_
                                          refine ww_iadd C dX6_meets_117 ?_
                                          refine ww_top (b := 8) (by decide) ?_
                                          refine al_37 C 8 (z := M 37 8) rfl (by omega) rfl dX6_meets_118 ?_
                                          refine ww_iload_n C dX6_meets_119 5 rfl ?_
                                          refine ww_imul C dX6_meets_120 ?_
                                          refine ww_iadd C dX6_meets_121 ?_
                                          refine ww_if_ne C 129 dX6_meets_122 (by decide) (by omega) (fun c_122 => ?_) (fun c_122 => ?_)
                                          · refine ww_iconst C dX6_meets_129 ?_
                                            refine ww_istore C dX6_meets_130 (lv' := [(4, .int (iZ 0)), (5, .int (iZ 2)), (0, .ref (wa w 30)), (1, .int (iZ ((i : Nat) : Int))), (2, .int (iZ j)), (3, .int (iZ l))]) (by rw [hkL]; decide) rfl ?_
                                            refine ww_iinc2 C dX6_meets_132 1 rfl (b := 3) (by omega) (lv' := [(5, .int (iZ 3)), (4, .int (iZ 0)), (0, .ref (wa w 30)), (1, .int (iZ ((i : Nat) : Int))), (2, .int (iZ j)), (3, .int (iZ l))]) (by rw [hkL]; decide) rfl ?_
                                            refine ww_goto C 72 dX6_meets_135 (by decide) ?_
                                            refine ww_iload C dX6_meets_72 0 rfl ?_
                                            refine ww_iconst C dX6_meets_74 ?_
                                            refine ww_icmp_ge C 138 dX6_meets_75 (by decide) (by omega) (by omega) (fun c_75 => ?_) (fun c_75 => ?_)
                                            · refine ww_iload C dX6_meets_138 1 rfl ?_
                                              refine ww_if_eq C 145 dX6_meets_140 (by decide) (by omega) (fun c_140 => ?_) (fun c_140 => ?_)
                                              · refine ww_iinc2 C dX6_meets_145 5 rfl (b := l + 1) (by omega) (lv' := [(3, .int (iZ (l + 1))), (5, .int (iZ 3)), (4, .int (iZ 0)), (0, .ref (wa w 30)), (1, .int (iZ ((i : Nat) : Int))), (2, .int (iZ j))]) (by rw [hkL]; decide) rfl ?_
                                                refine ww_goto C 40 dX6_meets_148 (by decide) ?_
                                                refine ww_sub [3, 4, 5, 0] rfl ?_
                                                exact ih_40 (l + 1) (by omega) (fun l9 h5 h6 => by rcases (show l9 < l ∨ l9 = l by omega) with e9 | e9; exact hL l9 h5 e9; (rw [e9]; intro f9; unfold mzP at f9; omega)) (by omega)
                                              · exact absurd c_140 (by decide)
                                            · exact absurd c_75 (by decide)
                                          · refine ww_iconst C dX6_meets_125 ?_
                                            refine ww_goto C 130 dX6_meets_126 (by decide) ?_
                                            refine ww_istore C dX6_meets_130 (lv' := [(4, .int (iZ 1)), (5, .int (iZ 2)), (0, .ref (wa w 30)), (1, .int (iZ ((i : Nat) : Int))), (2, .int (iZ j)), (3, .int (iZ l))]) (by rw [hkL]; decide) rfl ?_
                                            refine ww_iinc2 C dX6_meets_132 1 rfl (b := 3) (by omega) (lv' := [(5, .int (iZ 3)), (4, .int (iZ 1)), (0, .ref (wa w 30)), (1, .int (iZ ((i : Nat) : Int))), (2, .int (iZ j)), (3, .int (iZ l))]) (by rw [hkL]; decide) rfl ?_
                                            refine ww_goto C 72 dX6_meets_135 (by decide) ?_
                                            refine ww_iload C dX6_meets_72 0 rfl ?_
                                            refine ww_iconst C dX6_meets_74 ?_
                                            refine ww_icmp_ge C 138 dX6_meets_75 (by decide) (by omega) (by omega) (fun c_75 => ?_) (fun c_75 => ?_)
                                            · refine ww_iload C dX6_meets_138 1 rfl ?_
                                              refine ww_if_eq C 145 dX6_meets_140 (by decide) (by omega) (fun c_140 => ?_) (fun c_140 => ?_)
                                              · exact absurd c_140 (by decide)
                                              · refine ww_iconst C dX6_meets_143 ?_
                                                exact RT _ _ _ _ dX6_meets_144 (⟨Or.inr rfl, ⟨fun _ => ⟨(i : Int), j, l, by omega, by omega, by omega, by omega, by omega, by omega, ⟨by omega, by omega, by omega, by omega⟩⟩, fun _ => rfl⟩, rfl⟩)
                                            · exact absurd c_75 (by decide)
              refine ww_sub [1, 2, 3, 0] rfl ?_
              exact L_40 _ (1 - (M 31 2)) (by omega) (fun l9 h1 h2 => by omega) (Nat.lt_succ_self _)
        refine ww_sub [1, 2, 0] rfl ?_
        exact L_21 _ (1 - (M 31 1)) (by omega) (fun j9 l9 h1 h2 => by omega) (Nat.lt_succ_self _)
  refine ww_sub [1, 0] rfl ?_
  exact L_2 _ 0 (by omega) (fun i9 j9 l9 h1 h2 => by omega) (Nat.lt_succ_self _)
set_option maxRecDepth 100000 in
set_option maxHeartbeats 4000000 in
theorem ct_X6_wrongDelay (w : WLD) (M : Mem) (nv : Nat) (hnv : M 30 1 = (nv : Int)) (hn4 : nv ≤ 4) (hs : SzOk (M 31)) (hst : StOk (M 32)) (hnu : NuOk (M 37)) : CtI w yX6_wrongDelay cX6_wrongDelay 3 (some .int) rm_X6_wrongDelay [.ref (wa w 30)] M (fun z M1 => isFst (earP (M 37) (M 31) (M 32)) nv z ∧ M1 = M) := by
  refine CtI.of (by decide) (Nat.le_of_ble_eq_true rfl) rfl rfl ?_
  intro k hkL C RT
  show WW w k 0 [(0, .ref (wa w 30))] [] M
  refine ww_iconst C dX6_wrongDelay_0 ?_
  refine ww_istore_n C dX6_wrongDelay_1 (lv' := [(1, .int (iZ (-1))), (0, .ref (wa w 30))]) (by rw [hkL]; decide) rfl ?_
  refine ww_aload_n C dX6_wrongDelay_2 1 rfl ?_
  refine gt_X6_58 C dX6_wrongDelay_3 ?_
  refine ww_top (b := ((nv : Nat) : Int)) (hnv) ?_
  refine ww_iconst C dX6_wrongDelay_6 ?_
  refine ww_isub C dX6_wrongDelay_7 ?_
  refine ww_istore_n C dX6_wrongDelay_8 (lv' := [(2, .int (iZ (((nv : Nat) : Int) - 1))), (1, .int (iZ (-1))), (0, .ref (wa w 30))]) (by rw [hkL]; decide) rfl ?_
  have L_9 : ∀ (fuel : Nat) (t : Nat) (x : Int) (ht : t ≤ nv) (hx : isFsF (earP (M 37) (M 31) (M 32)) t nv x), t < fuel → WW w k 9 [(0, .ref (wa w 30)), (1, .int (iZ x)), (2, .int (iZ (((t : Nat) : Int) - 1)))] [] M := by
    intro fuel
    induction fuel with
    | zero => intro t x ht hx hf_9; exact absurd hf_9 (Nat.not_lt_zero _)
    | succ fuel ih_9 =>
      intro t x ht hx hf_9
      have b0 : t - 1 < 4 → _ := fun hv9 => stepB_b (h := 0) (v := t - 1) hnu hst (by omega) hv9
      have b1 : t - 1 < 4 → _ := fun hv9 => wayZ_b (v := t - 1) hnu hst hv9
      refine ww_iload_n C dX6_wrongDelay_9 2 rfl ?_
      refine ww_if_lt C 42 dX6_wrongDelay_10 (by decide) (by omega) (fun c_10 => ?_) (fun c_10 => ?_)
      · refine ww_iload_n C dX6_wrongDelay_42 1 rfl ?_
        exact RT _ _ _ _ dX6_wrongDelay_43 (⟨isFsF_end (by rw [show t = 0 by omega] at hx; exact hx), rfl⟩)
      · refine ww_aload_n C dX6_wrongDelay_13 0 rfl ?_
        refine ww_iload_n C dX6_wrongDelay_14 2 rfl ?_
        refine ww_top (b := ((t - 1 : Nat) : Int)) (by omega) ?_
        refine ww_callV C (As := [.int (iZ ((t - 1 : Nat) : Int))]) 30 (by decide) (ct_X6_isNeeded w M (t - 1) (by omega) (hs) (hst)) mf_X6_isNeeded ml_X6_86 rfl rfl (by decide) rfl rfl (Nat.le_of_ble_eq_true rfl) dX6_wrongDelay_15 (fun z_15 M_15 hp_15 => ?_)
        rw [hp_15.1, hp_15.2]
        refine ww_ifb_eq C 34 dX6_wrongDelay_18 (by decide) (fun c_18 => ?_) (fun c_18 => ?_)
        · refine ww_iload_n C dX6_wrongDelay_34 1 rfl ?_
          refine ww_istore_n C dX6_wrongDelay_35 (lv' := [(1, .int (iZ x)), (0, .ref (wa w 30)), (2, .int (iZ (((t : Nat) : Int) - 1)))]) (by rw [hkL]; decide) rfl ?_
          refine ww_iinc2 C dX6_wrongDelay_36 2 rfl (b := ((t - 1 : Nat) : Int) - 1) (by omega) (lv' := [(2, .int (iZ (((t - 1 : Nat) : Int) - 1))), (1, .int (iZ x)), (0, .ref (wa w 30))]) (by rw [hkL]; decide) rfl ?_
          refine ww_goto C 9 dX6_wrongDelay_39 (by decide) ?_
          refine ww_sub [2, 1, 0] rfl ?_
          exact ih_9 (t - 1) x (by omega) (isFsF_f (by omega) (by first | exact fun h8 => c_18 h8.1 | exact fun h8 => by have := h8.2; omega) hx) (by omega)
        · refine ww_aload_n C dX6_wrongDelay_21 0 rfl ?_
          refine ww_iload_n C dX6_wrongDelay_22 2 rfl ?_
          refine ww_top (b := ((t - 1 : Nat) : Int)) (by omega) ?_
          refine ww_callV C (As := [.int (iZ ((t - 1 : Nat) : Int))]) 30 (by decide) (ct_X6_delayOf w M (t - 1) (by omega)) mf_X6_delayOf ml_X6_89 rfl rfl (by decide) rfl rfl (Nat.le_of_ble_eq_true rfl) dX6_wrongDelay_23 (fun z_23 M_23 hp_23 => ?_)
          rw [hp_23.1, hp_23.2]
          refine ww_iconst C dX6_wrongDelay_26 ?_
          refine ww_icmp_ge C 34 dX6_wrongDelay_27 (by decide) (by omega) (by omega) (fun c_27 => ?_) (fun c_27 => ?_)
          · refine ww_iload_n C dX6_wrongDelay_34 1 rfl ?_
            refine ww_istore_n C dX6_wrongDelay_35 (lv' := [(1, .int (iZ x)), (0, .ref (wa w 30)), (2, .int (iZ (((t : Nat) : Int) - 1)))]) (by rw [hkL]; decide) rfl ?_
            refine ww_iinc2 C dX6_wrongDelay_36 2 rfl (b := ((t - 1 : Nat) : Int) - 1) (by omega) (lv' := [(2, .int (iZ (((t - 1 : Nat) : Int) - 1))), (1, .int (iZ x)), (0, .ref (wa w 30))]) (by rw [hkL]; decide) rfl ?_
            refine ww_goto C 9 dX6_wrongDelay_39 (by decide) ?_
            refine ww_sub [2, 1, 0] rfl ?_
            exact ih_9 (t - 1) x (by omega) (isFsF_f (by omega) (by first | exact fun h8 => c_18 h8.1 | exact fun h8 => by have := h8.2; omega) hx) (by omega)
          · refine ww_iload_n C dX6_wrongDelay_30 2 rfl ?_
            refine ww_goto C 35 dX6_wrongDelay_31 (by decide) ?_
            refine ww_istore_n C dX6_wrongDelay_35 (lv' := [(1, .int (iZ (((t : Nat) : Int) - 1))), (0, .ref (wa w 30)), (2, .int (iZ (((t : Nat) : Int) - 1)))]) (by rw [hkL]; decide) rfl ?_
            refine ww_iinc2 C dX6_wrongDelay_36 2 rfl (b := ((t - 1 : Nat) : Int) - 1) (by omega) (lv' := [(2, .int (iZ (((t - 1 : Nat) : Int) - 1))), (1, .int (iZ (((t : Nat) : Int) - 1))), (0, .ref (wa w 30))]) (by rw [hkL]; decide) rfl ?_
            refine ww_goto C 9 dX6_wrongDelay_39 (by decide) ?_
            refine ww_sub [2, 1, 0] rfl ?_
            exact ih_9 (t - 1) (((t : Nat) : Int) - 1) (by omega) (by rw [show ((t : Nat) : Int) - 1 = ((t - 1 : Nat) : Int) by omega]; exact isFsF_t (by omega) ht ⟨c_18, by omega⟩) (by omega)
  refine ww_sub [2, 1, 0] rfl ?_
  exact L_9 _ nv (-1) (by omega) (isFsF_0) (Nat.lt_succ_self _)
set_option maxRecDepth 100000 in
set_option maxHeartbeats 4000000 in
theorem ct_X6_wrongWay (w : WLD) (M : Mem) (nv : Nat) (hnv : M 30 1 = (nv : Int)) (hn4 : nv ≤ 4) (hs : SzOk (M 31)) (hst : StOk (M 32)) (hnu : NuOk (M 37)) : CtI w yX6_wrongWay cX6_wrongWay 3 (some .int) rm_X6_wrongWay [.ref (wa w 30)] M (fun z M1 => isFst (farP (M 37) (M 31) (M 32)) nv z ∧ M1 = M) := by
  refine CtI.of (by decide) (Nat.le_of_ble_eq_true rfl) rfl rfl ?_
  intro k hkL C RT
  show WW w k 0 [(0, .ref (wa w 30))] [] M
  refine ww_iconst C dX6_wrongWay_0 ?_
  refine ww_istore_n C dX6_wrongWay_1 (lv' := [(1, .int (iZ (-1))), (0, .ref (wa w 30))]) (by rw [hkL]; decide) rfl ?_
  refine ww_aload_n C dX6_wrongWay_2 1 rfl ?_
  refine gt_X6_58 C dX6_wrongWay_3 ?_
  refine ww_top (b := ((nv : Nat) : Int)) (hnv) ?_
  refine ww_iconst C dX6_wrongWay_6 ?_
  refine ww_isub C dX6_wrongWay_7 ?_
  refine ww_istore_n C dX6_wrongWay_8 (lv' := [(2, .int (iZ (((nv : Nat) : Int) - 1))), (1, .int (iZ (-1))), (0, .ref (wa w 30))]) (by rw [hkL]; decide) rfl ?_
  have L_9 : ∀ (fuel : Nat) (t : Nat) (x : Int) (ht : t ≤ nv) (hx : isFsF (farP (M 37) (M 31) (M 32)) t nv x), t < fuel → WW w k 9 [(0, .ref (wa w 30)), (1, .int (iZ x)), (2, .int (iZ (((t : Nat) : Int) - 1)))] [] M := by
    intro fuel
    induction fuel with
    | zero => intro t x ht hx hf_9; exact absurd hf_9 (Nat.not_lt_zero _)
    | succ fuel ih_9 =>
      intro t x ht hx hf_9
      have b0 : t - 1 < 4 → _ := fun hv9 => stepB_b (h := 0) (v := t - 1) hnu hst (by omega) hv9
      have b1 : t - 1 < 4 → _ := fun hv9 => wayZ_b (v := t - 1) hnu hst hv9
      refine ww_iload_n C dX6_wrongWay_9 2 rfl ?_
      refine ww_if_lt C 46 dX6_wrongWay_10 (by decide) (by omega) (fun c_10 => ?_) (fun c_10 => ?_)
      · refine ww_iload_n C dX6_wrongWay_46 1 rfl ?_
        exact RT _ _ _ _ dX6_wrongWay_47 (⟨isFsF_end (by rw [show t = 0 by omega] at hx; exact hx), rfl⟩)
      · refine ww_aload_n C dX6_wrongWay_13 0 rfl ?_
        refine ww_iload_n C dX6_wrongWay_14 2 rfl ?_
        refine ww_top (b := ((t - 1 : Nat) : Int)) (by omega) ?_
        refine ww_callV C (As := [.int (iZ ((t - 1 : Nat) : Int))]) 30 (by decide) (ct_X6_isNeeded w M (t - 1) (by omega) (hs) (hst)) mf_X6_isNeeded ml_X6_86 rfl rfl (by decide) rfl rfl (Nat.le_of_ble_eq_true rfl) dX6_wrongWay_15 (fun z_15 M_15 hp_15 => ?_)
        rw [hp_15.1, hp_15.2]
        refine ww_ifb_eq C 38 dX6_wrongWay_18 (by decide) (fun c_18 => ?_) (fun c_18 => ?_)
        · refine ww_iload_n C dX6_wrongWay_38 1 rfl ?_
          refine ww_istore_n C dX6_wrongWay_39 (lv' := [(1, .int (iZ x)), (0, .ref (wa w 30)), (2, .int (iZ (((t : Nat) : Int) - 1)))]) (by rw [hkL]; decide) rfl ?_
          refine ww_iinc2 C dX6_wrongWay_40 2 rfl (b := ((t - 1 : Nat) : Int) - 1) (by omega) (lv' := [(2, .int (iZ (((t - 1 : Nat) : Int) - 1))), (1, .int (iZ x)), (0, .ref (wa w 30))]) (by rw [hkL]; decide) rfl ?_
          refine ww_goto C 9 dX6_wrongWay_43 (by decide) ?_
          refine ww_sub [2, 1, 0] rfl ?_
          exact ih_9 (t - 1) x (by omega) (isFsF_f (by omega) (by first | exact fun h8 => c_18 h8.1 | exact fun h8 => by have := h8.2; omega) hx) (by omega)
        · refine ww_aload_n C dX6_wrongWay_21 0 rfl ?_
          refine ww_iload_n C dX6_wrongWay_22 2 rfl ?_
          refine ww_top (b := ((t - 1 : Nat) : Int)) (by omega) ?_
          refine ww_callV C (As := [.int (iZ ((t - 1 : Nat) : Int))]) 30 (by decide) (ct_X6_wayOf w M (t - 1) (by omega) (hnu) (hst)) mf_X6_wayOf ml_X6_92 rfl rfl (by decide) rfl rfl (Nat.le_of_ble_eq_true rfl) dX6_wrongWay_23 (fun z_23 M_23 hp_23 => ?_)
          rw [hp_23.1, hp_23.2]
          refine ww_aload_n C dX6_wrongWay_26 0 rfl ?_
          refine ww_iload_n C dX6_wrongWay_27 2 rfl ?_
          refine ww_top (b := ((t - 1 : Nat) : Int)) (by omega) ?_
          refine ww_callV C (As := [.int (iZ ((t - 1 : Nat) : Int))]) 30 (by decide) (ct_X6_delayOf w M (t - 1) (by omega)) mf_X6_delayOf ml_X6_89 rfl rfl (by decide) rfl rfl (Nat.le_of_ble_eq_true rfl) dX6_wrongWay_28 (fun z_28 M_28 hp_28 => ?_)
          rw [hp_28.1, hp_28.2]
          refine ww_icmp_le C 38 dX6_wrongWay_31 (by decide) (by omega) (by omega) (fun c_31 => ?_) (fun c_31 => ?_)
          · refine ww_iload_n C dX6_wrongWay_38 1 rfl ?_
            refine ww_istore_n C dX6_wrongWay_39 (lv' := [(1, .int (iZ x)), (0, .ref (wa w 30)), (2, .int (iZ (((t : Nat) : Int) - 1)))]) (by rw [hkL]; decide) rfl ?_
            refine ww_iinc2 C dX6_wrongWay_40 2 rfl (b := ((t - 1 : Nat) : Int) - 1) (by omega) (lv' := [(2, .int (iZ (((t - 1 : Nat) : Int) - 1))), (1, .int (iZ x)), (0, .ref (wa w 30))]) (by rw [hkL]; decide) rfl ?_
            refine ww_goto C 9 dX6_wrongWay_43 (by decide) ?_
            refine ww_sub [2, 1, 0] rfl ?_
            exact ih_9 (t - 1) x (by omega) (isFsF_f (by omega) (by first | exact fun h8 => c_18 h8.1 | exact fun h8 => by have := h8.2; omega) hx) (by omega)
          · refine ww_iload_n C dX6_wrongWay_34 2 rfl ?_
            refine ww_goto C 39 dX6_wrongWay_35 (by decide) ?_
            refine ww_istore_n C dX6_wrongWay_39 (lv' := [(1, .int (iZ (((t : Nat) : Int) - 1))), (0, .ref (wa w 30)), (2, .int (iZ (((t : Nat) : Int) - 1)))]) (by rw [hkL]; decide) rfl ?_
            refine ww_iinc2 C dX6_wrongWay_40 2 rfl (b := ((t - 1 : Nat) : Int) - 1) (by omega) (lv' := [(2, .int (iZ (((t - 1 : Nat) : Int) - 1))), (1, .int (iZ (((t : Nat) : Int) - 1))), (0, .ref (wa w 30))]) (by rw [hkL]; decide) rfl ?_
            refine ww_goto C 9 dX6_wrongWay_43 (by decide) ?_
            refine ww_sub [2, 1, 0] rfl ?_
            exact ih_9 (t - 1) (((t : Nat) : Int) - 1) (by omega) (by rw [show ((t : Nat) : Int) - 1 = ((t - 1 : Nat) : Int) by omega]; exact isFsF_t (by omega) ht ⟨c_18, by omega⟩) (by omega)
  refine ww_sub [2, 1, 0] rfl ?_
  exact L_9 _ nv (-1) (by omega) (isFsF_0) (Nat.lt_succ_self _)
set_option maxRecDepth 100000 in
set_option maxHeartbeats 4000000 in
theorem ct_X6_isRight (w : WLD) (M : Mem) (nv : Nat) (hnv : M 30 1 = (nv : Int)) (hn4 : nv ≤ 4) (hs : SzOk (M 31)) (hst : StOk (M 32)) (hnu : NuOk (M 37)) : CtI w yX6_isRight cX6_isRight 1 (some .boolean) rm_X6_isRight [.ref (wa w 30)] M (fun z M1 => (z = 0 ∨ z = 1) ∧ (z = 1 ↔ rigP (M 37) (M 31) (M 32) nv) ∧ M1 = M) := by
  refine CtI.ofZ (by decide) (Nat.le_of_ble_eq_true rfl) rfl rfl (fun z M9 h9 => h9.1) ?_
  intro k hkL C RT
  show WW w k 0 [(0, .ref (wa w 30))] [] M
  refine ww_aload_n C dX6_isRight_0 0 rfl ?_
  refine ww_callV C (As := []) 30 (by decide) (ct_X6_wrongDelay w M nv (hnv) (by omega) (hs) (hst) (hnu)) mf_X6_wrongDelay ml_X6_95 rfl rfl (by decide) rfl rfl (Nat.le_of_ble_eq_true rfl) dX6_isRight_1 (fun z_1 M_1 hp_1 => ?_)
  obtain ⟨hf_1, hm_1⟩ := hp_1
  refine ww_mem (M1 := M) (hm_1) ?_
  refine ww_if_ge C 25 dX6_isRight_4 (by decide) (by have := isFst_R (by omega) hf_1; omega) (fun c_4 => ?_) (fun c_4 => ?_)
  · refine ww_iconst C dX6_isRight_25 ?_
    exact RT _ _ _ _ dX6_isRight_26 (by first | exact ⟨Or.inl rfl, ⟨fun h9 => by omega, fun h9 => absurd ((isFst_neg hf_1).mpr h9.1) (by omega)⟩, rfl⟩ | exact ⟨Or.inl rfl, ⟨fun h9 => by omega, fun h9 => absurd ((isFst_neg hf_8).mpr h9.2.1) (by omega)⟩, rfl⟩ | exact ⟨Or.inl rfl, ⟨fun h9 => by omega, fun h9 => absurd (hmz_15.mp (by omega)) h9.2.2⟩, rfl⟩ | exact ⟨Or.inr rfl, ⟨fun _ => ⟨(isFst_neg hf_1).mp (by omega), (isFst_neg hf_8).mp (by omega), fun h8 => by have e8 := hmz_15.mpr h8; omega⟩, fun _ => rfl⟩, rfl⟩)
  · refine ww_aload_n C dX6_isRight_7 0 rfl ?_
    refine ww_callV C (As := []) 30 (by decide) (ct_X6_wrongWay w M nv (hnv) (by omega) (hs) (hst) (hnu)) mf_X6_wrongWay ml_X6_99 rfl rfl (by decide) rfl rfl (Nat.le_of_ble_eq_true rfl) dX6_isRight_8 (fun z_8 M_8 hp_8 => ?_)
    obtain ⟨hf_8, hm_8⟩ := hp_8
    refine ww_mem (M1 := M) (hm_8) ?_
    refine ww_if_ge C 25 dX6_isRight_11 (by decide) (by have := isFst_R (by omega) hf_8; omega) (fun c_11 => ?_) (fun c_11 => ?_)
    · refine ww_iconst C dX6_isRight_25 ?_
      exact RT _ _ _ _ dX6_isRight_26 (by first | exact ⟨Or.inl rfl, ⟨fun h9 => by omega, fun h9 => absurd ((isFst_neg hf_1).mpr h9.1) (by omega)⟩, rfl⟩ | exact ⟨Or.inl rfl, ⟨fun h9 => by omega, fun h9 => absurd ((isFst_neg hf_8).mpr h9.2.1) (by omega)⟩, rfl⟩ | exact ⟨Or.inl rfl, ⟨fun h9 => by omega, fun h9 => absurd (hmz_15.mp (by omega)) h9.2.2⟩, rfl⟩ | exact ⟨Or.inr rfl, ⟨fun _ => ⟨(isFst_neg hf_1).mp (by omega), (isFst_neg hf_8).mp (by omega), fun h8 => by have e8 := hmz_15.mpr h8; omega⟩, fun _ => rfl⟩, rfl⟩)
    · refine ww_aload_n C dX6_isRight_14 0 rfl ?_
      refine ww_callV C (As := []) 30 (by decide) (ct_X6_meets w M (hs) (hnu)) mf_X6_meets ml_X6_102 rfl rfl (by decide) rfl rfl (Nat.le_of_ble_eq_true rfl) dX6_isRight_15 (fun z_15 M_15 hp_15 => ?_)
      obtain ⟨hz_15, hmz_15, hm_15⟩ := hp_15
      refine ww_mem (M1 := M) (hm_15) ?_
      refine ww_if_ne C 25 dX6_isRight_18 (by decide) (by omega) (fun c_18 => ?_) (fun c_18 => ?_)
      · refine ww_iconst C dX6_isRight_25 ?_
        exact RT _ _ _ _ dX6_isRight_26 (by first | exact ⟨Or.inl rfl, ⟨fun h9 => by omega, fun h9 => absurd ((isFst_neg hf_1).mpr h9.1) (by omega)⟩, rfl⟩ | exact ⟨Or.inl rfl, ⟨fun h9 => by omega, fun h9 => absurd ((isFst_neg hf_8).mpr h9.2.1) (by omega)⟩, rfl⟩ | exact ⟨Or.inl rfl, ⟨fun h9 => by omega, fun h9 => absurd (hmz_15.mp (by omega)) h9.2.2⟩, rfl⟩ | exact ⟨Or.inr rfl, ⟨fun _ => ⟨(isFst_neg hf_1).mp (by omega), (isFst_neg hf_8).mp (by omega), fun h8 => by have e8 := hmz_15.mpr h8; omega⟩, fun _ => rfl⟩, rfl⟩)
      · refine ww_iconst C dX6_isRight_21 ?_
        refine ww_goto C 26 dX6_isRight_22 (by decide) ?_
        exact RT _ _ _ _ dX6_isRight_26 (by first | exact ⟨Or.inl rfl, ⟨fun h9 => by omega, fun h9 => absurd ((isFst_neg hf_1).mpr h9.1) (by omega)⟩, rfl⟩ | exact ⟨Or.inl rfl, ⟨fun h9 => by omega, fun h9 => absurd ((isFst_neg hf_8).mpr h9.2.1) (by omega)⟩, rfl⟩ | exact ⟨Or.inl rfl, ⟨fun h9 => by omega, fun h9 => absurd (hmz_15.mp (by omega)) h9.2.2⟩, rfl⟩ | exact ⟨Or.inr rfl, ⟨fun _ => ⟨(isFst_neg hf_1).mp (by omega), (isFst_neg hf_8).mp (by omega), fun h8 => by have e8 := hmz_15.mpr h8; omega⟩, fun _ => rfl⟩, rfl⟩)
set_option maxRecDepth 100000 in
set_option maxHeartbeats 4000000 in
theorem ct_X6_sameAs (w : WLD) (M : Mem) (p : Nat) (hs : SzOk (M 31)) (hnu : NuOk (M 37)) (hpp : isP (M 31) p) : CtI w yX6_sameAs cX6_sameAs 3 (some .int) rm_X6_sameAs [.ref (wa w 30), .int (iZ ((p : Nat) : Int))] M (fun z M1 => isFst (fun q9 => saP (M 37) (M 31) q9 p) p z ∧ M1 = M) := by
  refine CtI.of (by decide) (Nat.le_of_ble_eq_true rfl) rfl rfl ?_
  intro k hkL C RT
  have a0 := atZ_b (h := 0) hnu hs (by omega) hpp
  have a1 := atZ_b (h := 1) hnu hs (by omega) hpp
  have a2 := atZ_b (h := 2) hnu hs (by omega) hpp
  have hp5 := isP_lt hs hpp
  show WW w k 0 [(0, .ref (wa w 30)), (1, .int (iZ ((p : Nat) : Int)))] [] M
  refine ww_iconst C dX6_sameAs_0 ?_
  refine ww_istore_n C dX6_sameAs_1 (lv' := [(2, .int (iZ 0)), (0, .ref (wa w 30)), (1, .int (iZ ((p : Nat) : Int)))]) (by rw [hkL]; decide) rfl ?_
  have L_2 : ∀ (fuel : Nat) (t : Nat) (ht : t ≤ p) (hno : ∀ u : Nat, u < t → ¬ saP (M 37) (M 31) u p), p - t < fuel → WW w k 2 [(0, .ref (wa w 30)), (1, .int (iZ ((p : Nat) : Int))), (2, .int (iZ ((t : Nat) : Int)))] [] M := by
    intro fuel
    induction fuel with
    | zero => intro t ht hno hf_2; exact absurd hf_2 (Nat.not_lt_zero _)
    | succ fuel ih_2 =>
      intro t ht hno hf_2
      refine ww_iload_n C dX6_sameAs_2 2 rfl ?_
      refine ww_iload_n C dX6_sameAs_3 1 rfl ?_
      refine ww_icmp_ge C 68 dX6_sameAs_4 (by decide) (by omega) (by omega) (fun c_4 => ?_) (fun c_4 => ?_)
      · refine ww_iconst C dX6_sameAs_68 ?_
        exact RT _ _ _ _ dX6_sameAs_69 (⟨Or.inl ⟨rfl, fun u h9 => hno u (by omega)⟩, rfl⟩)
      · refine ww_aload_n C dX6_sameAs_7 0 rfl ?_
        refine ww_iload_n C dX6_sameAs_8 2 rfl ?_
        refine ww_callV C (As := [.int (iZ ((t : Nat) : Int))]) 30 (by decide) (ct_X6_isPointNumber w M t (by omega) (hs)) mf_X6_isPointNumber ml_X6_106 rfl rfl (by decide) rfl rfl (Nat.le_of_ble_eq_true rfl) dX6_sameAs_9 (fun z_9 M_9 hp_9 => ?_)
        rw [hp_9.1, hp_9.2]
        refine ww_ifb_eq C 62 dX6_sameAs_12 (by decide) (fun c_12 => ?_) (fun c_12 => ?_)
        · refine ww_iinc2 C dX6_sameAs_62 2 rfl (b := ((t + 1 : Nat) : Int)) (by omega) (lv' := [(2, .int (iZ ((t + 1 : Nat) : Int))), (0, .ref (wa w 30)), (1, .int (iZ ((p : Nat) : Int)))]) (by rw [hkL]; decide) rfl ?_
          refine ww_goto C 2 dX6_sameAs_65 (by decide) ?_
          refine ww_sub [1, 2, 0] rfl ?_
          exact ih_2 (t + 1) (by omega) (fun u h9 => by rcases Nat.lt_succ_iff_lt_or_eq.mp h9 with h9 | rfl; exact hno u h9; first | exact fun h8 => c_12 h8.1 | exact fun h8 => c_27 h8.2.1 | exact fun h8 => c_42 h8.2.2.1 | exact fun h8 => c_57 h8.2.2.2) (by omega)
        · have t0 := atZ_b (h := 0) hnu hs (by omega) c_12
          have t1 := atZ_b (h := 1) hnu hs (by omega) c_12
          have t2 := atZ_b (h := 2) hnu hs (by omega) c_12
          refine ww_aload_n C dX6_sameAs_15 0 rfl ?_
          refine ww_iconst C dX6_sameAs_16 ?_
          refine ww_iload_n C dX6_sameAs_17 2 rfl ?_
          refine ww_callV C (As := [.int (iZ 0), .int (iZ ((t : Nat) : Int))]) 30 (by decide) (ct_X6_at w M 0 t (by omega) (by omega) (hnu) (hs)) mf_X6_at ml_X6_75 rfl rfl (by decide) rfl rfl (Nat.le_of_ble_eq_true rfl) dX6_sameAs_18 (fun z_18 M_18 hp_18 => ?_)
          rw [hp_18.1, hp_18.2]
          refine ww_aload_n C dX6_sameAs_21 0 rfl ?_
          refine ww_iconst C dX6_sameAs_22 ?_
          refine ww_iload_n C dX6_sameAs_23 1 rfl ?_
          refine ww_callV C (As := [.int (iZ 0), .int (iZ ((p : Nat) : Int))]) 30 (by decide) (ct_X6_at w M 0 p (by omega) (by omega) (hnu) (hs)) mf_X6_at ml_X6_75 rfl rfl (by decide) rfl rfl (Nat.le_of_ble_eq_true rfl) dX6_sameAs_24 (fun z_24 M_24 hp_24 => ?_)
          rw [hp_24.1, hp_24.2]
          refine ww_icmp_ne C 62 dX6_sameAs_27 (by decide) (by omega) (by omega) (fun c_27 => ?_) (fun c_27 => ?_)
          · refine ww_iinc2 C dX6_sameAs_62 2 rfl (b := ((t + 1 : Nat) : Int)) (by omega) (lv' := [(2, .int (iZ ((t + 1 : Nat) : Int))), (0, .ref (wa w 30)), (1, .int (iZ ((p : Nat) : Int)))]) (by rw [hkL]; decide) rfl ?_
            refine ww_goto C 2 dX6_sameAs_65 (by decide) ?_
            refine ww_sub [1, 2, 0] rfl ?_
            exact ih_2 (t + 1) (by omega) (fun u h9 => by rcases Nat.lt_succ_iff_lt_or_eq.mp h9 with h9 | rfl; exact hno u h9; first | exact fun h8 => c_12 h8.1 | exact fun h8 => c_27 h8.2.1 | exact fun h8 => c_42 h8.2.2.1 | exact fun h8 => c_57 h8.2.2.2) (by omega)
          · refine ww_aload_n C dX6_sameAs_30 0 rfl ?_
            refine ww_iconst C dX6_sameAs_31 ?_
            refine ww_iload_n C dX6_sameAs_32 2 rfl ?_
            refine ww_callV C (As := [.int (iZ 1), .int (iZ ((t : Nat) : Int))]) 30 (by decide) (ct_X6_at w M 1 t (by omega) (by omega) (hnu) (hs)) mf_X6_at ml_X6_75 rfl rfl (by decide) rfl rfl (Nat.le_of_ble_eq_true rfl) dX6_sameAs_33 (fun z_33 M_33 hp_33 => ?_)
            rw [hp_33.1, hp_33.2]
            refine ww_aload_n C dX6_sameAs_36 0 rfl ?_
            refine ww_iconst C dX6_sameAs_37 ?_
            refine ww_iload_n C dX6_sameAs_38 1 rfl ?_
            refine ww_callV C (As := [.int (iZ 1), .int (iZ ((p : Nat) : Int))]) 30 (by decide) (ct_X6_at w M 1 p (by omega) (by omega) (hnu) (hs)) mf_X6_at ml_X6_75 rfl rfl (by decide) rfl rfl (Nat.le_of_ble_eq_true rfl) dX6_sameAs_39 (fun z_39 M_39 hp_39 => ?_)
            rw [hp_39.1, hp_39.2]
            refine ww_icmp_ne C 62 dX6_sameAs_42 (by decide) (by omega) (by omega) (fun c_42 => ?_) (fun c_42 => ?_)
            · refine ww_iinc2 C dX6_sameAs_62 2 rfl (b := ((t + 1 : Nat) : Int)) (by omega) (lv' := [(2, .int (iZ ((t + 1 : Nat) : Int))), (0, .ref (wa w 30)), (1, .int (iZ ((p : Nat) : Int)))]) (by rw [hkL]; decide) rfl ?_
              refine ww_goto C 2 dX6_sameAs_65 (by decide) ?_
              refine ww_sub [1, 2, 0] rfl ?_
              exact ih_2 (t + 1) (by omega) (fun u h9 => by rcases Nat.lt_succ_iff_lt_or_eq.mp h9 with h9 | rfl; exact hno u h9; first | exact fun h8 => c_12 h8.1 | exact fun h8 => c_27 h8.2.1 | exact fun h8 => c_42 h8.2.2.1 | exact fun h8 => c_57 h8.2.2.2) (by omega)
            · refine ww_aload_n C dX6_sameAs_45 0 rfl ?_
              refine ww_iconst C dX6_sameAs_46 ?_
              refine ww_iload_n C dX6_sameAs_47 2 rfl ?_
              refine ww_callV C (As := [.int (iZ 2), .int (iZ ((t : Nat) : Int))]) 30 (by decide) (ct_X6_at w M 2 t (by omega) (by omega) (hnu) (hs)) mf_X6_at ml_X6_75 rfl rfl (by decide) rfl rfl (Nat.le_of_ble_eq_true rfl) dX6_sameAs_48 (fun z_48 M_48 hp_48 => ?_)
              rw [hp_48.1, hp_48.2]
              refine ww_aload_n C dX6_sameAs_51 0 rfl ?_
              refine ww_iconst C dX6_sameAs_52 ?_
              refine ww_iload_n C dX6_sameAs_53 1 rfl ?_
              refine ww_callV C (As := [.int (iZ 2), .int (iZ ((p : Nat) : Int))]) 30 (by decide) (ct_X6_at w M 2 p (by omega) (by omega) (hnu) (hs)) mf_X6_at ml_X6_75 rfl rfl (by decide) rfl rfl (Nat.le_of_ble_eq_true rfl) dX6_sameAs_54 (fun z_54 M_54 hp_54 => ?_)
              rw [hp_54.1, hp_54.2]
              refine ww_icmp_ne C 62 dX6_sameAs_57 (by decide) (by omega) (by omega) (fun c_57 => ?_) (fun c_57 => ?_)
              · refine ww_iinc2 C dX6_sameAs_62 2 rfl (b := ((t + 1 : Nat) : Int)) (by omega) (lv' := [(2, .int (iZ ((t + 1 : Nat) : Int))), (0, .ref (wa w 30)), (1, .int (iZ ((p : Nat) : Int)))]) (by rw [hkL]; decide) rfl ?_
                refine ww_goto C 2 dX6_sameAs_65 (by decide) ?_
                refine ww_sub [1, 2, 0] rfl ?_
                exact ih_2 (t + 1) (by omega) (fun u h9 => by rcases Nat.lt_succ_iff_lt_or_eq.mp h9 with h9 | rfl; exact hno u h9; first | exact fun h8 => c_12 h8.1 | exact fun h8 => c_27 h8.2.1 | exact fun h8 => c_42 h8.2.2.1 | exact fun h8 => c_57 h8.2.2.2) (by omega)
              · refine ww_iload_n C dX6_sameAs_60 2 rfl ?_
                exact RT _ _ _ _ dX6_sameAs_61 (⟨Or.inr ⟨t, rfl, by omega, ⟨c_12, c_27, c_42, c_57⟩, hno⟩, rfl⟩)
  refine ww_sub [1, 2, 0] rfl ?_
  exact L_2 _ 0 (by omega) (fun u h9 => absurd h9 (Nat.not_lt_zero _)) (Nat.lt_succ_self _)
set_option maxRecDepth 100000 in
set_option maxHeartbeats 4000000 in
theorem ct_X6_beats (w : WLD) (M : Mem) (hs : SzOk (M 31)) (hnu : NuOk (M 37)) (hf : 1 ≤ M 30 8 ∧ M 30 8 ≤ 8) : CtI w yX6_beats cX6_beats 4 (some .int) rm_X6_beats [.ref (wa w 30)] M (fun z M1 => beaR (M 31) (beatZ (M 37) (M 31) (M 30 8)) 512 z ∧ M1 = M) := by
  refine CtI.of (by decide) (Nat.le_of_ble_eq_true rfl) rfl rfl ?_
  intro k hkL C RT
  have hbb : ∀ p : Nat, isP (M 31) p → 0 ≤ beatZ (M 37) (M 31) (M 30 8) p ∧ beatZ (M 37) (M 31) (M 30 8) p < 512 := fun p h9 => beatZ_b hnu hs hf.1 hf.2 h9
  show WW w k 0 [(0, .ref (wa w 30))] [] M
  refine ww_iconst C dX6_beats_0 ?_
  refine ww_istore_n C dX6_beats_1 (lv' := [(1, .int (iZ 0)), (0, .ref (wa w 30))]) (by rw [hkL]; decide) rfl ?_
  refine ww_iconst C dX6_beats_2 ?_
  refine ww_istore_n C dX6_beats_3 (lv' := [(2, .int (iZ 0)), (1, .int (iZ 0)), (0, .ref (wa w 30))]) (by rw [hkL]; decide) rfl ?_
  have L_4 : ∀ (fuel : Nat) (t : Nat) (x : Int) (ht : t ≤ 512) (hx : mxR (M 31) (beatZ (M 37) (M 31) (M 30 8)) t x), 512 - t < fuel → WW w k 4 [(0, .ref (wa w 30)), (1, .int (iZ x)), (2, .int (iZ ((t : Nat) : Int)))] [] M := by
    intro fuel
    induction fuel with
    | zero => intro t x ht hx hf_4; exact absurd hf_4 (Nat.not_lt_zero _)
    | succ fuel ih_4 =>
      intro t x ht hx hf_4
      have hxb := mxR_b hbb hx
      refine ww_iload_n C dX6_beats_4 2 rfl ?_
      refine ww_sipush C dX6_beats_5 (by decide) ?_
      refine ww_icmp_ge C 42 dX6_beats_8 (by decide) (by omega) (by omega) (fun c_8 => ?_) (fun c_8 => ?_)
      · refine ww_iload_n C dX6_beats_42 1 rfl ?_
        refine ww_iconst C dX6_beats_43 ?_
        refine ww_iadd C dX6_beats_44 ?_
        exact RT _ _ _ _ dX6_beats_45 (⟨mxR_end hs (fun p h9 => (hbb p h9).1) (by rw [show t = 512 by omega] at hx; exact hx), rfl⟩)
      · refine ww_aload_n C dX6_beats_11 0 rfl ?_
        refine ww_iload_n C dX6_beats_12 2 rfl ?_
        refine ww_callV C (As := [.int (iZ ((t : Nat) : Int))]) 30 (by decide) (ct_X6_isPointNumber w M t (by omega) (hs)) mf_X6_isPointNumber ml_X6_106 rfl rfl (by decide) rfl rfl (Nat.le_of_ble_eq_true rfl) dX6_beats_13 (fun z_13 M_13 hp_13 => ?_)
        rw [hp_13.1, hp_13.2]
        refine ww_ifb_eq C 36 dX6_beats_16 (by decide) (fun c_16 => ?_) (fun c_16 => ?_)
        · refine ww_iinc2 C dX6_beats_36 2 rfl (b := ((t + 1 : Nat) : Int)) (by omega) (lv' := [(2, .int (iZ ((t + 1 : Nat) : Int))), (0, .ref (wa w 30)), (1, .int (iZ x))]) (by rw [hkL]; decide) rfl ?_
          refine ww_goto C 4 dX6_beats_39 (by decide) ?_
          refine ww_sub [1, 2, 0] rfl ?_
          exact ih_4 (t + 1) x (by omega) (by first | exact mxR_skip hx c_16 | exact mxR_keep hx (by omega)) (by omega)
        · have hbt := hbb t c_16
          refine ww_aload_n C dX6_beats_19 0 rfl ?_
          refine ww_iload_n C dX6_beats_20 2 rfl ?_
          refine ww_callV C (As := [.int (iZ ((t : Nat) : Int))]) 30 (by decide) (ct_X6_beatOf w M t (hnu) (hs) (hf) (c_16)) mf_X6_beatOf ml_X6_112 rfl rfl (by decide) rfl rfl (Nat.le_of_ble_eq_true rfl) dX6_beats_21 (fun z_21 M_21 hp_21 => ?_)
          rw [hp_21.1, hp_21.2]
          refine ww_istore_n C dX6_beats_24 (lv' := [(3, .int (iZ (beatZ ((M 37)) ((M 31)) ((M 30) 8) t))), (0, .ref (wa w 30)), (1, .int (iZ x)), (2, .int (iZ ((t : Nat) : Int)))]) (by rw [hkL]; decide) rfl ?_
          refine ww_iload_n C dX6_beats_25 0 rfl ?_
          refine ww_iload_n C dX6_beats_26 2 rfl ?_
          refine ww_icmp_le C 34 dX6_beats_27 (by decide) (by omega) (by omega) (fun c_27 => ?_) (fun c_27 => ?_)
          · refine ww_iload_n C dX6_beats_34 2 rfl ?_
            refine ww_istore_n C dX6_beats_35 (lv' := [(1, .int (iZ x)), (3, .int (iZ (beatZ ((M 37)) ((M 31)) ((M 30) 8) t))), (0, .ref (wa w 30)), (2, .int (iZ ((t : Nat) : Int)))]) (by rw [hkL]; decide) rfl ?_
            refine ww_iinc2 C dX6_beats_36 3 rfl (b := ((t + 1 : Nat) : Int)) (by omega) (lv' := [(2, .int (iZ ((t + 1 : Nat) : Int))), (1, .int (iZ x)), (3, .int (iZ (beatZ ((M 37)) ((M 31)) ((M 30) 8) t))), (0, .ref (wa w 30))]) (by rw [hkL]; decide) rfl ?_
            refine ww_goto C 4 dX6_beats_39 (by decide) ?_
            refine ww_sub [3, 1, 0] rfl ?_
            exact ih_4 (t + 1) x (by omega) (by first | exact mxR_skip hx c_16 | exact mxR_keep hx (by omega)) (by omega)
          · refine ww_iload_n C dX6_beats_30 0 rfl ?_
            refine ww_goto C 35 dX6_beats_31 (by decide) ?_
            refine ww_istore_n C dX6_beats_35 (lv' := [(1, .int (iZ (beatZ ((M 37)) ((M 31)) ((M 30) 8) t))), (3, .int (iZ (beatZ ((M 37)) ((M 31)) ((M 30) 8) t))), (0, .ref (wa w 30)), (2, .int (iZ ((t : Nat) : Int)))]) (by rw [hkL]; decide) rfl ?_
            refine ww_iinc2 C dX6_beats_36 3 rfl (b := ((t + 1 : Nat) : Int)) (by omega) (lv' := [(2, .int (iZ ((t + 1 : Nat) : Int))), (1, .int (iZ (beatZ ((M 37)) ((M 31)) ((M 30) 8) t))), (3, .int (iZ (beatZ ((M 37)) ((M 31)) ((M 30) 8) t))), (0, .ref (wa w 30))]) (by rw [hkL]; decide) rfl ?_
            refine ww_goto C 4 dX6_beats_39 (by decide) ?_
            refine ww_sub [3, 1, 0] rfl ?_
            exact ih_4 (t + 1) (beatZ ((M 37)) ((M 31)) ((M 30) 8) t) (by omega) (mxR_up hx c_16 (by omega)) (by omega)
  refine ww_sub [2, 1, 0] rfl ?_
  exact L_4 _ 0 0 (by omega) (mxR_0) (Nat.lt_succ_self _)
set_option maxRecDepth 100000 in
set_option maxHeartbeats 4000000 in
theorem ct_X6_cells (w : WLD) (M : Mem) (hs : SzOk (M 31)) (hnu : NuOk (M 37)) (hf : 1 ≤ M 30 8 ∧ M 30 8 ≤ 8) (h40 : ∀ j : Nat, 4096 ≤ j → M 40 j = 0) : CtI w yX6_cells cX6_cells 4 (some .int) rm_X6_cells [.ref (wa w 30)] M (fun z M1 => z = difK (M 31) (keyZ (M 37) (M 31) (M 30 8)) 512 ∧ ∃ ic : Nat → Int, (∀ j : Nat, 4096 ≤ j → ic j = 0) ∧ M1 = ups M 40 ic) := by
  refine CtI.of (by decide) (Nat.le_of_ble_eq_true rfl) rfl rfl ?_
  intro k hkL C RT
  show WW w k 0 [(0, .ref (wa w 30))] [] M
  refine ww_iconst C dX6_cells_0 ?_
  refine ww_istore_n C dX6_cells_1 (lv' := [(1, .int (iZ 0)), (0, .ref (wa w 30))]) (by rw [hkL]; decide) rfl ?_
  have L_2 : ∀ (fuel : Nat) (t : Nat) (ht : t ≤ 4096), 4096 - t < fuel → WW w k 2 [(0, .ref (wa w 30)), (1, .int (iZ ((t : Nat) : Int)))] [] (ups M 40 (fil t 0 (M 40))) := by
    intro fuel
    induction fuel with
    | zero => intro t ht hf_2; exact absurd hf_2 (Nat.not_lt_zero _)
    | succ fuel ih_2 =>
      intro t ht hf_2
      refine ww_iload_n C dX6_cells_2 1 rfl ?_
      refine ww_sipush C dX6_cells_3 (by decide) ?_
      refine ww_icmp_ge C 22 dX6_cells_6 (by decide) (by omega) (by omega) (fun c_6 => ?_) (fun c_6 => ?_)
      · have hfz : ∀ j : Nat, fil 4096 0 (M 40) j = 0 := fun j => by
          by_cases h9 : j < 4096
          · exact fil_lt h9
          · unfold fil
            rw [if_neg h9]
            exact h40 j (by omega)
        refine ww_mem (M1 := ups M 40 (fil 4096 0 (M 40))) (by rw [show t = 4096 by omega]) ?_
        refine ww_iconst C dX6_cells_22 ?_
        refine ww_istore_n C dX6_cells_23 (lv' := [(1, .int (iZ 0)), (0, .ref (wa w 30))]) (by rw [hkL]; decide) rfl ?_
        refine ww_iconst C dX6_cells_24 ?_
        refine ww_istore_n C dX6_cells_25 (lv' := [(2, .int (iZ 0)), (1, .int (iZ 0)), (0, .ref (wa w 30))]) (by rw [hkL]; decide) rfl ?_
        have L_26 : ∀ (fuel : Nat) (t : Nat) (n : Int) (ic : Nat → Int) (ht : t ≤ 512) (hn : n = difK (M 31) (keyZ (M 37) (M 31) (M 30 8)) t) (hic : kyR (M 31) (keyZ (M 37) (M 31) (M 30 8)) ic t) (h44 : ∀ j : Nat, 4096 ≤ j → ic j = 0), 512 - t < fuel → WW w k 26 [(0, .ref (wa w 30)), (1, .int (iZ n)), (2, .int (iZ ((t : Nat) : Int)))] [] (ups M 40 ic) := by
          intro fuel
          induction fuel with
          | zero => intro t n ic ht hn hic h44 hf_26; exact absurd hf_26 (Nat.not_lt_zero _)
          | succ fuel ih_26 =>
            intro t n ic ht hn hic h44 hf_26
            refine ww_iload_n C dX6_cells_26 2 rfl ?_
            refine ww_sipush C dX6_cells_27 (by decide) ?_
            refine ww_icmp_ge C 90 dX6_cells_30 (by decide) (by omega) (by omega) (fun c_30 => ?_) (fun c_30 => ?_)
            · refine ww_iload_n C dX6_cells_90 1 rfl ?_
              exact RT _ _ _ _ dX6_cells_91 (⟨by rw [hn, show t = 512 by omega], ic, h44, rfl⟩)
            · refine ww_aload_n C dX6_cells_33 0 rfl ?_
              refine ww_iload_n C dX6_cells_34 2 rfl ?_
              refine ww_callV C (As := [.int (iZ ((t : Nat) : Int))]) 30 (by decide) (ct_X6_isPointNumber w (ups M 40 ic) t (show t < 512 from by omega) (show SzOk ((M 31)) from hs)) mf_X6_isPointNumber ml_X6_106 rfl rfl (by decide) rfl rfl (Nat.le_of_ble_eq_true rfl) dX6_cells_35 (fun z_35 M_35 hp_35 => ?_)
              rw [hp_35.1, hp_35.2]
              refine ww_top (b := b2i (isP ((M 31)) t)) rfl ?_
              refine ww_ifb_ne C 44 dX6_cells_38 (by decide) (fun c_38 => ?_) (fun c_38 => ?_)
              · have hkb := keyZ_b hnu hs hf.1 c_38
                have hkk : keyZ (M 37) (M 31) (M 30 8) t = (((keyZ (M 37) (M 31) (M 30 8) t).toNat : Nat) : Int) := by omega
                have hic1 := (hic (keyZ (M 37) (M 31) (M 30 8) t).toNat).1
                have hdb := dif_b (M 31) (keyZ (M 37) (M 31) (M 30 8)) t
                refine ww_bipush C dX6_cells_44 (by decide) ?_
                refine ww_aload_n C dX6_cells_46 0 rfl ?_
                refine ww_iload_n C dX6_cells_47 2 rfl ?_
                refine ww_callV C (As := [.int (iZ ((t : Nat) : Int))]) 30 (by decide) (ct_X6_cellOf w (ups M 40 ic) t (show NuOk ((M 37)) from hnu) (show SzOk ((M 31)) from hs) (show 1 ≤ (M 30) 8 ∧ (M 30) 8 ≤ 8 from hf) (show isP ((M 31)) t from c_38)) mf_X6_cellOf ml_X6_115 rfl rfl (by decide) rfl rfl (Nat.le_of_ble_eq_true rfl) dX6_cells_48 (fun z_48 M_48 hp_48 => ?_)
                rw [hp_48.1, hp_48.2]
                refine ww_top (b := cellZ ((M 37)) ((M 31)) ((M 30) 8) t) rfl ?_
                refine ww_imul C dX6_cells_51 ?_
                refine ww_aload_n C dX6_cells_52 0 rfl ?_
                refine ww_iconst C dX6_cells_53 ?_
                refine ww_iload_n C dX6_cells_54 2 rfl ?_
                refine ww_callV C (As := [.int (iZ 2), .int (iZ ((t : Nat) : Int))]) 30 (by decide) (ct_X6_at w (ups M 40 ic) 2 t (show 2 < 3 from by omega) (show t < 512 from by omega) (show NuOk ((M 37)) from hnu) (show SzOk ((M 31)) from hs)) mf_X6_at ml_X6_75 rfl rfl (by decide) rfl rfl (Nat.le_of_ble_eq_true rfl) dX6_cells_55 (fun z_55 M_55 hp_55 => ?_)
                rw [hp_55.1, hp_55.2]
                refine ww_top (b := atZ ((M 37)) ((M 31)) 2 t) rfl ?_
                refine ww_iadd C dX6_cells_58 ?_
                refine ww_top (b := (((keyZ (M 37) (M 31) (M 30 8) t).toNat : Nat) : Int)) (hkk) ?_
                refine ww_istore_n C dX6_cells_59 (lv' := [(3, .int (iZ (((keyZ (M 37) (M 31) (M 30 8) t).toNat : Nat) : Int))), (0, .ref (wa w 30)), (1, .int (iZ n)), (2, .int (iZ ((t : Nat) : Int)))]) (by rw [hkL]; decide) rfl ?_
                refine ww_iload_n C dX6_cells_60 2 rfl ?_
                refine ww_aload_n C dX6_cells_61 1 rfl ?_
                refine gt_X6_41 C dX6_cells_62 ?_
                refine ww_iload_n C dX6_cells_65 0 rfl ?_
                refine al_40 C ((keyZ (M 37) (M 31) (M 30 8) t).toNat) (z := ic ((keyZ (M 37) (M 31) (M 30 8) t).toNat)) rfl (by omega) rfl dX6_cells_66 ?_
                refine ww_if_eq C 74 dX6_cells_67 (by decide) (by omega) (fun c_67 => ?_) (fun c_67 => ?_)
                · refine ww_iconst C dX6_cells_74 ?_
                  refine ww_iadd C dX6_cells_75 ?_
                  refine ww_istore_n C dX6_cells_76 (lv' := [(1, .int (iZ (n + 1))), (3, .int (iZ (((keyZ (M 37) (M 31) (M 30 8) t).toNat : Nat) : Int))), (0, .ref (wa w 30)), (2, .int (iZ ((t : Nat) : Int)))]) (by rw [hkL]; decide) rfl ?_
                  refine ww_aload_n C dX6_cells_77 2 rfl ?_
                  refine gt_X6_41 C dX6_cells_78 ?_
                  refine ww_iload_n C dX6_cells_81 1 rfl ?_
                  refine ww_iconst C dX6_cells_82 ?_
                  refine as_40 C ((keyZ (M 37) (M 31) (M 30 8) t).toNat) rfl (by omega) (by decide) dX6_cells_83 ?_
                  refine ww_mem (M1 := ups M 40 (up1 ic ((keyZ (M 37) (M 31) (M 30 8) t).toNat) 1)) (ups_ups) ?_
                  refine ww_iinc2 C dX6_cells_84 3 rfl (b := ((t + 1 : Nat) : Int)) (by omega) (lv' := [(2, .int (iZ ((t + 1 : Nat) : Int))), (1, .int (iZ (n + 1))), (3, .int (iZ (((keyZ (M 37) (M 31) (M 30 8) t).toNat : Nat) : Int))), (0, .ref (wa w 30))]) (by rw [hkL]; decide) rfl ?_
                  refine ww_goto C 26 dX6_cells_87 (by decide) ?_
                  refine ww_sub [3, 1, 0] rfl ?_
                  exact ih_26 (t + 1) (n + 1) (up1 ic ((keyZ (M 37) (M 31) (M 30 8) t).toNat) 1) (by omega) (by rw [dif_add hic c_38 hkk]; first | (rw [b2i_f c_67]; omega) | (rw [b2i_t c_67]; omega)) (kyR_add hic c_38 hkk) (fun j h9 => by rw [up1_n (by omega)]; exact h44 j h9) (by omega)
                · refine ww_iconst C dX6_cells_70 ?_
                  refine ww_goto C 75 dX6_cells_71 (by decide) ?_
                  refine ww_iadd C dX6_cells_75 ?_
                  refine ww_istore_n C dX6_cells_76 (lv' := [(1, .int (iZ (n + 0))), (3, .int (iZ (((keyZ (M 37) (M 31) (M 30 8) t).toNat : Nat) : Int))), (0, .ref (wa w 30)), (2, .int (iZ ((t : Nat) : Int)))]) (by rw [hkL]; decide) rfl ?_
                  refine ww_aload_n C dX6_cells_77 2 rfl ?_
                  refine gt_X6_41 C dX6_cells_78 ?_
                  refine ww_iload_n C dX6_cells_81 1 rfl ?_
                  refine ww_iconst C dX6_cells_82 ?_
                  refine as_40 C ((keyZ (M 37) (M 31) (M 30 8) t).toNat) rfl (by omega) (by decide) dX6_cells_83 ?_
                  refine ww_mem (M1 := ups M 40 (up1 ic ((keyZ (M 37) (M 31) (M 30 8) t).toNat) 1)) (ups_ups) ?_
                  refine ww_iinc2 C dX6_cells_84 3 rfl (b := ((t + 1 : Nat) : Int)) (by omega) (lv' := [(2, .int (iZ ((t + 1 : Nat) : Int))), (1, .int (iZ (n + 0))), (3, .int (iZ (((keyZ (M 37) (M 31) (M 30 8) t).toNat : Nat) : Int))), (0, .ref (wa w 30))]) (by rw [hkL]; decide) rfl ?_
                  refine ww_goto C 26 dX6_cells_87 (by decide) ?_
                  refine ww_sub [3, 1, 0] rfl ?_
                  exact ih_26 (t + 1) (n + 0) (up1 ic ((keyZ (M 37) (M 31) (M 30 8) t).toNat) 1) (by omega) (by rw [dif_add hic c_38 hkk]; first | (rw [b2i_f c_67]; omega) | (rw [b2i_t c_67]; omega)) (kyR_add hic c_38 hkk) (fun j h9 => by rw [up1_n (by omega)]; exact h44 j h9) (by omega)
              · refine ww_goto C 84 dX6_cells_41 (by decide) ?_
                refine ww_iinc2 C dX6_cells_84 2 rfl (b := ((t + 1 : Nat) : Int)) (by omega) (lv' := [(2, .int (iZ ((t + 1 : Nat) : Int))), (0, .ref (wa w 30)), (1, .int (iZ n))]) (by rw [hkL]; decide) rfl ?_
                refine ww_goto C 26 dX6_cells_87 (by decide) ?_
                refine ww_sub [1, 2, 0] rfl ?_
                exact ih_26 (t + 1) n ic (by omega) (by rw [dif_skip c_38]; exact hn) (kyR_skip hic c_38) (h44) (by omega)
        refine ww_sub [2, 1, 0] rfl ?_
        exact L_26 _ 0 0 (fil 4096 0 (M 40)) (by omega) (rfl) (fun j => ⟨Or.inl (hfz j), ⟨fun e9 => by have := hfz j; omega, fun ⟨q9, a9, _⟩ => by omega⟩⟩) (fun j h9 => hfz j) (Nat.lt_succ_self _)
      · refine ww_aload_n C dX6_cells_9 0 rfl ?_
        refine gt_X6_41 C dX6_cells_10 ?_
        refine ww_iload_n C dX6_cells_13 1 rfl ?_
        refine ww_iconst C dX6_cells_14 ?_
        refine as_40 C t rfl (by omega) (by decide) dX6_cells_15 ?_
        refine ww_mem (M1 := ups M 40 (fil (t + 1) 0 (M 40))) (by rw [ups_ups]; show ups M 40 (up1 (fil t 0 (M 40)) t 0) = _; rw [fil_s]) ?_
        refine ww_iinc2 C dX6_cells_16 1 rfl (b := ((t + 1 : Nat) : Int)) (by omega) (lv' := [(1, .int (iZ ((t + 1 : Nat) : Int))), (0, .ref (wa w 30))]) (by rw [hkL]; decide) rfl ?_
        refine ww_goto C 2 dX6_cells_19 (by decide) ?_
        refine ww_sub [1, 0] rfl ?_
        exact ih_2 (t + 1) (by omega) (by omega)
  refine ww_sub [1, 0] rfl ?_
  refine ww_mem (M1 := ups M 40 (fil 0 0 (M 40))) (by rw [fil_0, ups_id]) ?_
  exact L_2 _ 0 (by omega) (Nat.lt_succ_self _)
set_option maxRecDepth 100000 in
set_option maxHeartbeats 4000000 in
theorem ct_X6_divides (w : WLD) (M : Mem) (n : Nat) (hn : 1 ≤ n ∧ n ≤ 1024) (h1 : ∀ d : Nat, M 41 d = 0 ∨ M 41 d = 1) : CtI w yX6_divides cX6_divides 4 (some .boolean) rm_X6_divides [.ref (wa w 30), .int (iZ ((n : Nat) : Int))] M (fun z M1 => (z = 0 ∨ z = 1) ∧ (z = 1 ↔ ∃ u : Nat, 1 ≤ u ∧ u * n < 1024 ∧ M 41 (u * n) = 1) ∧ M1 = M) := by
  refine CtI.ofZ (by decide) (Nat.le_of_ble_eq_true rfl) rfl rfl (fun z M9 h9 => h9.1) ?_
  intro k hkL C RT
  show WW w k 0 [(0, .ref (wa w 30)), (1, .int (iZ ((n : Nat) : Int)))] [] M
  refine ww_iconst C dX6_divides_0 ?_
  refine ww_istore_n C dX6_divides_1 (lv' := [(2, .int (iZ 0)), (0, .ref (wa w 30)), (1, .int (iZ ((n : Nat) : Int)))]) (by rw [hkL]; decide) rfl ?_
  refine ww_iload_n C dX6_divides_2 2 rfl ?_
  refine ww_top (b := ((1 * n : Nat) : Int)) (by omega) ?_
  refine ww_istore_n C dX6_divides_3 (lv' := [(3, .int (iZ ((1 * n : Nat) : Int))), (2, .int (iZ 0)), (0, .ref (wa w 30)), (1, .int (iZ ((n : Nat) : Int)))]) (by rw [hkL]; decide) rfl ?_
  have L_4 : ∀ (fuel : Nat) (u : Nat) (s : Int) (hu : 1 ≤ u ∧ u ≤ 1024) (hs1 : s = 0 ∨ s = 1) (hs2 : s = 1 ↔ ∃ j : Nat, 1 ≤ j ∧ j < u ∧ j * n < 1024 ∧ M 41 (j * n) = 1), 1024 - u < fuel → WW w k 4 [(0, .ref (wa w 30)), (1, .int (iZ ((n : Nat) : Int))), (2, .int (iZ s)), (3, .int (iZ ((u * n : Nat) : Int)))] [] M := by
    intro fuel
    induction fuel with
    | zero => intro u s hu hs1 hs2 hf_4; exact absurd hf_4 (Nat.not_lt_zero _)
    | succ fuel ih_4 =>
      intro u s hu hs1 hs2 hf_4
      have hun : u ≤ u * n := Nat.le_mul_of_pos_right u (by omega)
      have hsm : (u + 1) * n = u * n + n := Nat.succ_mul u n
      have hd1 := h1 (u * n)
      have hmono : ∀ j : Nat, u ≤ j → u * n ≤ j * n := fun j h9 => Nat.mul_le_mul_right n h9
      have hun2 : u * n ≤ 1024 * 1024 := Nat.mul_le_mul hu.2 hn.2
      refine ww_iload_n C dX6_divides_4 3 rfl ?_
      refine ww_sipush C dX6_divides_5 (by decide) ?_
      refine ww_icmp_ge C 37 dX6_divides_8 (by decide) (by omega) (by omega) (fun c_8 => ?_) (fun c_8 => ?_)
      · refine ww_iload_n C dX6_divides_37 2 rfl ?_
        exact RT _ _ _ _ dX6_divides_38 (⟨hs1, hs2.trans ⟨fun ⟨j, a1, a2, a3, a4⟩ => ⟨j, a1, a3, a4⟩, fun ⟨j, a1, a3, a4⟩ => ⟨j, a1, Nat.lt_of_not_le (fun h9 => by have := hmono j h9; omega), a3, a4⟩⟩, rfl⟩)
      · refine ww_iload_n C dX6_divides_11 2 rfl ?_
        refine ww_if_ne C 24 dX6_divides_12 (by decide) (by omega) (fun c_12 => ?_) (fun c_12 => ?_)
        · refine ww_iconst C dX6_divides_24 ?_
          refine ww_goto C 29 dX6_divides_25 (by decide) ?_
          refine ww_istore_n C dX6_divides_29 (lv' := [(2, .int (iZ 1)), (0, .ref (wa w 30)), (1, .int (iZ ((n : Nat) : Int))), (3, .int (iZ ((u * n : Nat) : Int)))]) (by rw [hkL]; decide) rfl ?_
          refine ww_iload_n C dX6_divides_30 3 rfl ?_
          refine ww_iload_n C dX6_divides_31 2 rfl ?_
          refine ww_iadd C dX6_divides_32 ?_
          refine ww_top (b := (((u + 1) * n : Nat) : Int)) (by omega) ?_
          refine ww_istore_n C dX6_divides_33 (lv' := [(3, .int (iZ (((u + 1) * n : Nat) : Int))), (2, .int (iZ 1)), (0, .ref (wa w 30)), (1, .int (iZ ((n : Nat) : Int)))]) (by rw [hkL]; decide) rfl ?_
          refine ww_goto C 4 dX6_divides_34 (by decide) ?_
          refine ww_sub [2, 3, 1, 0] rfl ?_
          exact ih_4 (u + 1) 1 (by omega) (by omega) (dv_s hs2 (by omega) (by omega)) (by omega)
        · refine ww_aload_n C dX6_divides_15 0 rfl ?_
          refine gt_X6_45 C dX6_divides_16 ?_
          refine ww_iload_n C dX6_divides_19 3 rfl ?_
          refine al_41 C (u * n) (z := M 41 (u * n)) rfl (by omega) rfl dX6_divides_20 ?_
          refine ww_if_eq C 28 dX6_divides_21 (by decide) (by omega) (fun c_21 => ?_) (fun c_21 => ?_)
          · refine ww_iconst C dX6_divides_28 ?_
            refine ww_istore_n C dX6_divides_29 (lv' := [(2, .int (iZ 0)), (0, .ref (wa w 30)), (1, .int (iZ ((n : Nat) : Int))), (3, .int (iZ ((u * n : Nat) : Int)))]) (by rw [hkL]; decide) rfl ?_
            refine ww_iload_n C dX6_divides_30 3 rfl ?_
            refine ww_iload_n C dX6_divides_31 2 rfl ?_
            refine ww_iadd C dX6_divides_32 ?_
            refine ww_top (b := (((u + 1) * n : Nat) : Int)) (by omega) ?_
            refine ww_istore_n C dX6_divides_33 (lv' := [(3, .int (iZ (((u + 1) * n : Nat) : Int))), (2, .int (iZ 0)), (0, .ref (wa w 30)), (1, .int (iZ ((n : Nat) : Int)))]) (by rw [hkL]; decide) rfl ?_
            refine ww_goto C 4 dX6_divides_34 (by decide) ?_
            refine ww_sub [2, 3, 1, 0] rfl ?_
            exact ih_4 (u + 1) 0 (by omega) (by omega) (dv_s hs2 (by omega) (by omega)) (by omega)
          · refine ww_iconst C dX6_divides_24 ?_
            refine ww_goto C 29 dX6_divides_25 (by decide) ?_
            refine ww_istore_n C dX6_divides_29 (lv' := [(2, .int (iZ 1)), (0, .ref (wa w 30)), (1, .int (iZ ((n : Nat) : Int))), (3, .int (iZ ((u * n : Nat) : Int)))]) (by rw [hkL]; decide) rfl ?_
            refine ww_iload_n C dX6_divides_30 3 rfl ?_
            refine ww_iload_n C dX6_divides_31 2 rfl ?_
            refine ww_iadd C dX6_divides_32 ?_
            refine ww_top (b := (((u + 1) * n : Nat) : Int)) (by omega) ?_
            refine ww_istore_n C dX6_divides_33 (lv' := [(3, .int (iZ (((u + 1) * n : Nat) : Int))), (2, .int (iZ 1)), (0, .ref (wa w 30)), (1, .int (iZ ((n : Nat) : Int)))]) (by rw [hkL]; decide) rfl ?_
            refine ww_goto C 4 dX6_divides_34 (by decide) ?_
            refine ww_sub [2, 3, 1, 0] rfl ?_
            exact ih_4 (u + 1) 1 (by omega) (by omega) (dv_s hs2 (by omega) (by omega)) (by omega)
  refine ww_sub [2, 3, 1, 0] rfl ?_
  exact L_4 _ 1 0 (by omega) (by omega) (⟨fun h9 => by omega, fun ⟨j, a1, a2, _⟩ => by omega⟩) (Nat.lt_succ_self _)
set_option maxRecDepth 100000 in
set_option maxHeartbeats 4000000 in
theorem ct_X6_apart (w : WLD) (M : Mem) (hs : SzOk (M 31)) (hnu : NuOk (M 37)) (hf : 1 ≤ M 30 8 ∧ M 30 8 ≤ 8) (h41 : ∀ d : Nat, 1024 ≤ d → M 41 d = 0) : CtI w yX6_apart cX6_apart 3 (some .int) rm_X6_apart [.ref (wa w 30)] M (fun z M1 => ((dsP (M 31) (keyZ (M 37) (M 31) (M 30 8)) (beatZ (M 37) (M 31) (M 30 8)) 512 0 ∧ z = -1) ∨ (¬ dsP (M 31) (keyZ (M 37) (M 31) (M 30 8)) (beatZ (M 37) (M 31) (M 30 8)) 512 0 ∧ apR (dsP (M 31) (keyZ (M 37) (M 31) (M 30 8)) (beatZ (M 37) (M 31) (M 30 8)) 512) z)) ∧ ∃ ia : Nat → Int, (∀ d : Nat, 1024 ≤ d → ia d = 0) ∧ M1 = ups M 41 ia) := by
  refine CtI.of (by decide) (Nat.le_of_ble_eq_true rfl) rfl rfl ?_
  intro k hkL C RT
  have hbb : ∀ p : Nat, isP (M 31) p → 0 ≤ beatZ (M 37) (M 31) (M 30 8) p ∧ beatZ (M 37) (M 31) (M 30 8) p < 512 := fun p h9 => beatZ_b hnu hs hf.1 hf.2 h9
  show WW w k 0 [(0, .ref (wa w 30))] [] M
  refine ww_iconst C dX6_apart_0 ?_
  refine ww_istore_n C dX6_apart_1 (lv' := [(1, .int (iZ 0)), (0, .ref (wa w 30))]) (by rw [hkL]; decide) rfl ?_
  have L_2 : ∀ (fuel : Nat) (t : Nat) (ht : t ≤ 1024), 1024 - t < fuel → WW w k 2 [(0, .ref (wa w 30)), (1, .int (iZ ((t : Nat) : Int)))] [] (ups M 41 (fil t 0 (M 41))) := by
    intro fuel
    induction fuel with
    | zero => intro t ht hf_2; exact absurd hf_2 (Nat.not_lt_zero _)
    | succ fuel ih_2 =>
      intro t ht hf_2
      refine ww_iload_n C dX6_apart_2 1 rfl ?_
      refine ww_sipush C dX6_apart_3 (by decide) ?_
      refine ww_icmp_ge C 22 dX6_apart_6 (by decide) (by omega) (by omega) (fun c_6 => ?_) (fun c_6 => ?_)
      · have hfz : ∀ d : Nat, fil 1024 0 (M 41) d = 0 := fun d => by
          by_cases h9 : d < 1024
          · exact fil_lt h9
          · unfold fil
            rw [if_neg h9]
            exact h41 d (by omega)
        refine ww_mem (M1 := ups M 41 (fil 1024 0 (M 41))) (by rw [show t = 1024 by omega]) ?_
        refine ww_iconst C dX6_apart_22 ?_
        refine ww_istore_n C dX6_apart_23 (lv' := [(1, .int (iZ 0)), (0, .ref (wa w 30))]) (by rw [hkL]; decide) rfl ?_
        have L_24 : ∀ (fuel : Nat) (t : Nat) (ia : Nat → Int) (ht : t ≤ 512) (hdt : dtR (M 31) (keyZ (M 37) (M 31) (M 30 8)) (beatZ (M 37) (M 31) (M 30 8)) ia t 0), 512 - t < fuel → WW w k 24 [(0, .ref (wa w 30)), (1, .int (iZ ((t : Nat) : Int)))] [] (ups M 41 ia) := by
          intro fuel
          induction fuel with
          | zero => intro t ia ht hdt hf_24; exact absurd hf_24 (Nat.not_lt_zero _)
          | succ fuel ih_24 =>
            intro t ia ht hdt hf_24
            refine ww_iload_n C dX6_apart_24 1 rfl ?_
            refine ww_sipush C dX6_apart_25 (by decide) ?_
            refine ww_icmp_ge C 114 dX6_apart_28 (by decide) (by omega) (by omega) (fun c_28 => ?_) (fun c_28 => ?_)
            · have hde : ∀ d : Nat, (ia d = 0 ∨ ia d = 1) ∧ (ia d = 1 ↔ dsP (M 31) (keyZ (M 37) (M 31) (M 30 8)) (beatZ (M 37) (M 31) (M 30 8)) 512 d) := dtR_end (by rw [show t = 512 by omega] at hdt; exact hdt)
              have hd0 := hde 0
              have hds : ∀ d : Nat, dsP (M 31) (keyZ (M 37) (M 31) (M 30 8)) (beatZ (M 37) (M 31) (M 30 8)) 512 d → (d : Int) < 512 := fun d h9 => dsP_b hbb h9
              have hbig : ∀ d : Nat, 1024 ≤ d → ia d = 0 := fun d h9 => by
                rcases (hde d).1 with e9 | e9
                · exact e9
                · have := hds d ((hde d).2.mp e9)
                  omega
              refine ww_aload_n C dX6_apart_114 0 rfl ?_
              refine gt_X6_45 C dX6_apart_115 ?_
              refine ww_iconst C dX6_apart_118 ?_
              refine al_41 C 0 (z := ia 0) rfl (by omega) rfl dX6_apart_119 ?_
              refine ww_if_eq C 125 dX6_apart_120 (by decide) (by omega) (fun c_120 => ?_) (fun c_120 => ?_)
              · refine ww_iconst C dX6_apart_125 ?_
                refine ww_istore_n C dX6_apart_126 (lv' := [(1, .int (iZ 1)), (0, .ref (wa w 30))]) (by rw [hkL]; decide) rfl ?_
                have L_127 : ∀ (fuel : Nat) (n : Nat) (hn : 1 ≤ n ∧ n ≤ 512) (hno : ∀ u : Nat, 1 ≤ u → u < n → ∃ j : Nat, 1 ≤ j ∧ dsP (M 31) (keyZ (M 37) (M 31) (M 30 8)) (beatZ (M 37) (M 31) (M 30 8)) 512 (j * u)), 513 - n < fuel → WW w k 127 [(0, .ref (wa w 30)), (1, .int (iZ ((n : Nat) : Int)))] [] (ups M 41 ia) := by
                  intro fuel
                  induction fuel with
                  | zero => intro n hn hno hf_127; exact absurd hf_127 (Nat.not_lt_zero _)
                  | succ fuel ih_127 =>
                    intro n hn hno hf_127
                    refine ww_aload_n C dX6_apart_127 0 rfl ?_
                    refine ww_iload_n C dX6_apart_128 1 rfl ?_
                    refine ww_callV C (As := [.int (iZ ((n : Nat) : Int))]) 30 (by decide) (ct_X6_divides w (ups M 41 ia) n (show 1 ≤ n ∧ n ≤ 1024 from by omega) (show ∀ d : Nat, ia d = 0 ∨ ia d = 1 from fun d => (hde d).1)) mf_X6_divides ml_X6_118 rfl rfl (by decide) rfl rfl (Nat.le_of_ble_eq_true rfl) dX6_apart_129 (fun z_129 M_129 hp_129 => ?_)
                    obtain ⟨hz_129, hdv_129, hm_129⟩ := hp_129
                    have hdv_129 : z_129 = 1 ↔ ∃ u : Nat, 1 ≤ u ∧ u * n < 1024 ∧ ia (u * n) = 1 := hdv_129
                    have hdw_129 : dvQ ia n z_129 := hdv_129
                    clear hdv_129
                    refine ww_mem (M1 := ups M 41 ia) (hm_129) ?_
                    refine ww_if_eq C 141 dX6_apart_132 (by decide) (by omega) (fun c_132 => ?_) (fun c_132 => ?_)
                    · have hfree := dv_f hdw_129 (by omega) hde hds
                      refine ww_iload_n C dX6_apart_141 1 rfl ?_
                      exact RT _ _ _ _ dX6_apart_142 (⟨Or.inr ⟨fun h8 => by have e8 := hd0.2.mpr h8; omega, ⟨n, rfl, hn.1, hfree, hno⟩⟩, ia, hbig, rfl⟩)
                    · obtain ⟨hsome, hnn⟩ := dv_t hdw_129 (by omega) hde hds hn.1
                      refine ww_iinc2 C dX6_apart_135 1 rfl (b := ((n + 1 : Nat) : Int)) (by omega) (lv' := [(1, .int (iZ ((n + 1 : Nat) : Int))), (0, .ref (wa w 30))]) (by rw [hkL]; decide) rfl ?_
                      refine ww_goto C 127 dX6_apart_138 (by decide) ?_
                      refine ww_sub [1, 0] rfl ?_
                      exact ih_127 (n + 1) (hnn) (fun u h8 h9 => by rcases Nat.lt_succ_iff_lt_or_eq.mp h9 with h9 | rfl; exact hno u h8 h9; exact hsome) (by omega)
                refine ww_sub [1, 0] rfl ?_
                exact L_127 _ 1 (by omega) (fun u h8 h9 => by omega) (Nat.lt_succ_self _)
              · refine ww_iconst C dX6_apart_123 ?_
                exact RT _ _ _ _ dX6_apart_124 (⟨Or.inl ⟨hd0.2.mp (by omega), rfl⟩, ia, hbig, rfl⟩)
            · refine ww_iconst C dX6_apart_31 ?_
              refine ww_istore_n C dX6_apart_32 (lv' := [(2, .int (iZ 0)), (0, .ref (wa w 30)), (1, .int (iZ ((t : Nat) : Int)))]) (by rw [hkL]; decide) rfl ?_
              have L_33 : ∀ (fuel : Nat) (u : Nat) (ia : Nat → Int) (hu : u ≤ t) (hdt : dtR (M 31) (keyZ (M 37) (M 31) (M 30 8)) (beatZ (M 37) (M 31) (M 30 8)) ia t u), t - u < fuel → WW w k 33 [(0, .ref (wa w 30)), (1, .int (iZ ((t : Nat) : Int))), (2, .int (iZ ((u : Nat) : Int)))] [] (ups M 41 ia) := by
                intro fuel
                induction fuel with
                | zero => intro u ia hu hdt hf_33; exact absurd hf_33 (Nat.not_lt_zero _)
                | succ fuel ih_33 =>
                  intro u ia hu hdt hf_33
                  refine ww_iload_n C dX6_apart_33 2 rfl ?_
                  refine ww_iload_n C dX6_apart_34 1 rfl ?_
                  refine ww_icmp_ge C 108 dX6_apart_35 (by decide) (by omega) (by omega) (fun c_35 => ?_) (fun c_35 => ?_)
                  · refine ww_iinc2 C dX6_apart_108 1 rfl (b := ((t + 1 : Nat) : Int)) (by omega) (lv' := [(1, .int (iZ ((t + 1 : Nat) : Int))), (0, .ref (wa w 30)), (2, .int (iZ ((u : Nat) : Int)))]) (by rw [hkL]; decide) rfl ?_
                    refine ww_goto C 24 dX6_apart_111 (by decide) ?_
                    refine ww_sub [1, 0] rfl ?_
                    exact ih_24 (t + 1) ia (by omega) (dtR_t hdt (by first | exact Or.inl (by omega) | exact Or.inr c_43)) (by omega)
                  · refine ww_aload_n C dX6_apart_38 0 rfl ?_
                    refine ww_iload_n C dX6_apart_39 1 rfl ?_
                    refine ww_callV C (As := [.int (iZ ((t : Nat) : Int))]) 30 (by decide) (ct_X6_isPointNumber w (ups M 41 ia) t (show t < 512 from by omega) (show SzOk ((M 31)) from hs)) mf_X6_isPointNumber ml_X6_106 rfl rfl (by decide) rfl rfl (Nat.le_of_ble_eq_true rfl) dX6_apart_40 (fun z_40 M_40 hp_40 => ?_)
                    rw [hp_40.1, hp_40.2]
                    refine ww_top (b := b2i (isP ((M 31)) t)) rfl ?_
                    refine ww_ifb_eq C 108 dX6_apart_43 (by decide) (fun c_43 => ?_) (fun c_43 => ?_)
                    · refine ww_iinc2 C dX6_apart_108 1 rfl (b := ((t + 1 : Nat) : Int)) (by omega) (lv' := [(1, .int (iZ ((t + 1 : Nat) : Int))), (0, .ref (wa w 30)), (2, .int (iZ ((u : Nat) : Int)))]) (by rw [hkL]; decide) rfl ?_
                      refine ww_goto C 24 dX6_apart_111 (by decide) ?_
                      refine ww_sub [1, 0] rfl ?_
                      exact ih_24 (t + 1) ia (by omega) (dtR_t hdt (by first | exact Or.inl (by omega) | exact Or.inr c_43)) (by omega)
                    · refine ww_aload_n C dX6_apart_46 0 rfl ?_
                      refine ww_iload_n C dX6_apart_47 2 rfl ?_
                      refine ww_callV C (As := [.int (iZ ((u : Nat) : Int))]) 30 (by decide) (ct_X6_isPointNumber w (ups M 41 ia) u (show u < 512 from by omega) (show SzOk ((M 31)) from hs)) mf_X6_isPointNumber ml_X6_106 rfl rfl (by decide) rfl rfl (Nat.le_of_ble_eq_true rfl) dX6_apart_48 (fun z_48 M_48 hp_48 => ?_)
                      rw [hp_48.1, hp_48.2]
                      refine ww_top (b := b2i (isP ((M 31)) u)) rfl ?_
                      refine ww_ifb_eq C 102 dX6_apart_51 (by decide) (fun c_51 => ?_) (fun c_51 => ?_)
                      · refine ww_iinc2 C dX6_apart_102 2 rfl (b := ((u + 1 : Nat) : Int)) (by omega) (lv' := [(2, .int (iZ ((u + 1 : Nat) : Int))), (0, .ref (wa w 30)), (1, .int (iZ ((t : Nat) : Int)))]) (by rw [hkL]; decide) rfl ?_
                        refine ww_goto C 33 dX6_apart_105 (by decide) ?_
                        refine ww_sub [1, 2, 0] rfl ?_
                        exact ih_33 (u + 1) ia (by omega) (dtR_u hdt (by first | exact fun h8 => c_51 h8.1 | exact fun h8 => by have e8 := h8.2.2; unfold keyZ at e8; omega)) (by omega)
                      · have t1 := cellZ_b hnu hs hf.1 c_43
                        have t2 := atZ_b (h := 2) hnu hs (by omega) c_43
                        have u1 := cellZ_b hnu hs hf.1 c_51
                        have u2 := atZ_b (h := 2) hnu hs (by omega) c_51
                        have t3 := hbb t c_43
                        have u3 := hbb u c_51
                        have hd0 := aZ_b (a := beatZ (M 37) (M 31) (M 30 8) t - beatZ (M 37) (M 31) (M 30 8) u) (n := 511) (by omega) (by omega)
                        refine ww_aload_n C dX6_apart_54 0 rfl ?_
                        refine ww_iload_n C dX6_apart_55 1 rfl ?_
                        refine ww_callV C (As := [.int (iZ ((t : Nat) : Int))]) 30 (by decide) (ct_X6_cellOf w (ups M 41 ia) t (show NuOk ((M 37)) from hnu) (show SzOk ((M 31)) from hs) (show 1 ≤ (M 30) 8 ∧ (M 30) 8 ≤ 8 from hf) (show isP ((M 31)) t from c_43)) mf_X6_cellOf ml_X6_115 rfl rfl (by decide) rfl rfl (Nat.le_of_ble_eq_true rfl) dX6_apart_56 (fun z_56 M_56 hp_56 => ?_)
                        rw [hp_56.1, hp_56.2]
                        refine ww_top (b := cellZ ((M 37)) ((M 31)) ((M 30) 8) t) rfl ?_
                        refine ww_aload_n C dX6_apart_59 0 rfl ?_
                        refine ww_iload_n C dX6_apart_60 2 rfl ?_
                        refine ww_callV C (As := [.int (iZ ((u : Nat) : Int))]) 30 (by decide) (ct_X6_cellOf w (ups M 41 ia) u (show NuOk ((M 37)) from hnu) (show SzOk ((M 31)) from hs) (show 1 ≤ (M 30) 8 ∧ (M 30) 8 ≤ 8 from hf) (show isP ((M 31)) u from c_51)) mf_X6_cellOf ml_X6_115 rfl rfl (by decide) rfl rfl (Nat.le_of_ble_eq_true rfl) dX6_apart_61 (fun z_61 M_61 hp_61 => ?_)
                        rw [hp_61.1, hp_61.2]
                        refine ww_top (b := cellZ ((M 37)) ((M 31)) ((M 30) 8) u) rfl ?_
                        refine ww_icmp_ne C 102 dX6_apart_64 (by decide) (by omega) (by omega) (fun c_64 => ?_) (fun c_64 => ?_)
                        · refine ww_iinc2 C dX6_apart_102 2 rfl (b := ((u + 1 : Nat) : Int)) (by omega) (lv' := [(2, .int (iZ ((u + 1 : Nat) : Int))), (0, .ref (wa w 30)), (1, .int (iZ ((t : Nat) : Int)))]) (by rw [hkL]; decide) rfl ?_
                          refine ww_goto C 33 dX6_apart_105 (by decide) ?_
                          refine ww_sub [1, 2, 0] rfl ?_
                          exact ih_33 (u + 1) ia (by omega) (dtR_u hdt (by first | exact fun h8 => c_51 h8.1 | exact fun h8 => by have e8 := h8.2.2; unfold keyZ at e8; omega)) (by omega)
                        · refine ww_aload_n C dX6_apart_67 0 rfl ?_
                          refine ww_iconst C dX6_apart_68 ?_
                          refine ww_iload_n C dX6_apart_69 1 rfl ?_
                          refine ww_callV C (As := [.int (iZ 2), .int (iZ ((t : Nat) : Int))]) 30 (by decide) (ct_X6_at w (ups M 41 ia) 2 t (show 2 < 3 from by omega) (show t < 512 from by omega) (show NuOk ((M 37)) from hnu) (show SzOk ((M 31)) from hs)) mf_X6_at ml_X6_75 rfl rfl (by decide) rfl rfl (Nat.le_of_ble_eq_true rfl) dX6_apart_70 (fun z_70 M_70 hp_70 => ?_)
                          rw [hp_70.1, hp_70.2]
                          refine ww_top (b := atZ ((M 37)) ((M 31)) 2 t) rfl ?_
                          refine ww_aload_n C dX6_apart_73 0 rfl ?_
                          refine ww_iconst C dX6_apart_74 ?_
                          refine ww_iload_n C dX6_apart_75 2 rfl ?_
                          refine ww_callV C (As := [.int (iZ 2), .int (iZ ((u : Nat) : Int))]) 30 (by decide) (ct_X6_at w (ups M 41 ia) 2 u (show 2 < 3 from by omega) (show u < 512 from by omega) (show NuOk ((M 37)) from hnu) (show SzOk ((M 31)) from hs)) mf_X6_at ml_X6_75 rfl rfl (by decide) rfl rfl (Nat.le_of_ble_eq_true rfl) dX6_apart_76 (fun z_76 M_76 hp_76 => ?_)
                          rw [hp_76.1, hp_76.2]
                          refine ww_top (b := atZ ((M 37)) ((M 31)) 2 u) rfl ?_
                          refine ww_icmp_ne C 102 dX6_apart_79 (by decide) (by omega) (by omega) (fun c_79 => ?_) (fun c_79 => ?_)
                          · refine ww_iinc2 C dX6_apart_102 2 rfl (b := ((u + 1 : Nat) : Int)) (by omega) (lv' := [(2, .int (iZ ((u + 1 : Nat) : Int))), (0, .ref (wa w 30)), (1, .int (iZ ((t : Nat) : Int)))]) (by rw [hkL]; decide) rfl ?_
                            refine ww_goto C 33 dX6_apart_105 (by decide) ?_
                            refine ww_sub [1, 2, 0] rfl ?_
                            exact ih_33 (u + 1) ia (by omega) (dtR_u hdt (by first | exact fun h8 => c_51 h8.1 | exact fun h8 => by have e8 := h8.2.2; unfold keyZ at e8; omega)) (by omega)
                          · have hkk : keyZ (M 37) (M 31) (M 30 8) u = keyZ (M 37) (M 31) (M 30 8) t := by unfold keyZ; omega
                            refine ww_aload_n C dX6_apart_82 0 rfl ?_
                            refine gt_X6_45 C dX6_apart_83 ?_
                            refine ww_aload_n C dX6_apart_86 0 rfl ?_
                            refine ww_iload_n C dX6_apart_87 1 rfl ?_
                            refine ww_callV C (As := [.int (iZ ((t : Nat) : Int))]) 30 (by decide) (ct_X6_beatOf w (ups M 41 ia) t (show NuOk ((M 37)) from hnu) (show SzOk ((M 31)) from hs) (show 1 ≤ (M 30) 8 ∧ (M 30) 8 ≤ 8 from hf) (show isP ((M 31)) t from c_43)) mf_X6_beatOf ml_X6_112 rfl rfl (by decide) rfl rfl (Nat.le_of_ble_eq_true rfl) dX6_apart_88 (fun z_88 M_88 hp_88 => ?_)
                            rw [hp_88.1, hp_88.2]
                            refine ww_top (b := beatZ ((M 37)) ((M 31)) ((M 30) 8) t) rfl ?_
                            refine ww_aload_n C dX6_apart_91 0 rfl ?_
                            refine ww_iload_n C dX6_apart_92 2 rfl ?_
                            refine ww_callV C (As := [.int (iZ ((u : Nat) : Int))]) 30 (by decide) (ct_X6_beatOf w (ups M 41 ia) u (show NuOk ((M 37)) from hnu) (show SzOk ((M 31)) from hs) (show 1 ≤ (M 30) 8 ∧ (M 30) 8 ≤ 8 from hf) (show isP ((M 31)) u from c_51)) mf_X6_beatOf ml_X6_112 rfl rfl (by decide) rfl rfl (Nat.le_of_ble_eq_true rfl) dX6_apart_93 (fun z_93 M_93 hp_93 => ?_)
                            rw [hp_93.1, hp_93.2]
                            refine ww_top (b := beatZ ((M 37)) ((M 31)) ((M 30) 8) u) rfl ?_
                            refine ww_isub C dX6_apart_96 ?_
                            refine ww_callS C (As := [.int (iZ ((beatZ ((M 37)) ((M 31)) ((M 30) 8) t) - (beatZ ((M 37)) ((M 31)) ((M 30) 8) u)))]) (ct_X6_absolute w (ups M 41 ia) ((beatZ ((M 37)) ((M 31)) ((M 30) 8) t) - (beatZ ((M 37)) ((M 31)) ((M 30) 8) u)) (show R32 ((beatZ ((M 37)) ((M 31)) ((M 30) 8) t) - (beatZ ((M 37)) ((M 31)) ((M 30) 8) u)) from by omega)) mf_X6_absolute ml_X6_82 (by decide) rfl rfl (Nat.le_of_ble_eq_true rfl) dX6_apart_97 (fun z_97 M_97 hp_97 => ?_)
                            rw [hp_97.1, hp_97.2]
                            refine ww_top (b := aZ ((beatZ ((M 37)) ((M 31)) ((M 30) 8) t) - (beatZ ((M 37)) ((M 31)) ((M 30) 8) u))) rfl ?_
                            refine ww_iconst C dX6_apart_100 ?_
                            refine as_41 C ((aZ (beatZ (M 37) (M 31) (M 30 8) t - beatZ (M 37) (M 31) (M 30 8) u)).toNat) (by omega) (by omega) (by decide) dX6_apart_101 ?_
                            refine ww_mem (M1 := ups M 41 (up1 ia ((aZ (beatZ (M 37) (M 31) (M 30 8) t - beatZ (M 37) (M 31) (M 30 8) u)).toNat) 1)) (ups_ups) ?_
                            refine ww_iinc2 C dX6_apart_102 2 rfl (b := ((u + 1 : Nat) : Int)) (by omega) (lv' := [(2, .int (iZ ((u + 1 : Nat) : Int))), (0, .ref (wa w 30)), (1, .int (iZ ((t : Nat) : Int)))]) (by rw [hkL]; decide) rfl ?_
                            refine ww_goto C 33 dX6_apart_105 (by decide) ?_
                            refine ww_sub [1, 2, 0] rfl ?_
                            exact ih_33 (u + 1) (up1 ia ((aZ (beatZ (M 37) (M 31) (M 30 8) t - beatZ (M 37) (M 31) (M 30 8) u)).toNat) 1) (by omega) (dtR_a hdt c_51 c_43 hkk (by omega)) (by omega)
              refine ww_sub [1, 2, 0] rfl ?_
              exact L_33 _ 0 ia (by omega) (hdt) (Nat.lt_succ_self _)
        refine ww_sub [1, 0] rfl ?_
        exact L_24 _ 0 (fil 1024 0 (M 41)) (by omega) (dtR_0 hfz) (Nat.lt_succ_self _)
      · refine ww_aload_n C dX6_apart_9 0 rfl ?_
        refine gt_X6_45 C dX6_apart_10 ?_
        refine ww_iload_n C dX6_apart_13 1 rfl ?_
        refine ww_iconst C dX6_apart_14 ?_
        refine as_41 C t rfl (by omega) (by decide) dX6_apart_15 ?_
        refine ww_mem (M1 := ups M 41 (fil (t + 1) 0 (M 41))) (by rw [ups_ups]; show ups M 41 (up1 (fil t 0 (M 41)) t 0) = _; rw [fil_s]) ?_
        refine ww_iinc2 C dX6_apart_16 1 rfl (b := ((t + 1 : Nat) : Int)) (by omega) (lv' := [(1, .int (iZ ((t + 1 : Nat) : Int))), (0, .ref (wa w 30))]) (by rw [hkL]; decide) rfl ?_
        refine ww_goto C 2 dX6_apart_19 (by decide) ?_
        refine ww_sub [1, 0] rfl ?_
        exact ih_2 (t + 1) (by omega) (by omega)
  refine ww_sub [1, 0] rfl ?_
  refine ww_mem (M1 := ups M 41 (fil 0 0 (M 41))) (by rw [fil_0, ups_id]) ?_
  exact L_2 _ 0 (by omega) (Nat.lt_succ_self _)
