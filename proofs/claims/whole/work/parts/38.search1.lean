set_option maxRecDepth 100000 in
set_option maxHeartbeats 4000000 in
theorem ct_X3_commonDivisor (w : WLD) (M : Mem) (a b : Nat) (ha : a < 64) (hb : b < 64) : CtI w yX3_commonDivisor cX3_commonDivisor 6 (some .int) rm_X3_commonDivisor [.int (iZ ((a : Nat) : Int)), .int (iZ ((b : Nat) : Int))] M (fun z M1 => z = ((Nat.gcd a b : Nat) : Int) ∧ M1 = M) := by
  refine CtI.of (by decide) (Nat.le_of_ble_eq_true rfl) rfl rfl ?_
  intro k hkL C RT
  show WW w k 0 [(0, .int (iZ ((a : Nat) : Int))), (1, .int (iZ ((b : Nat) : Int)))] [] M
  refine ww_iload_n C dX3_commonDivisor_0 0 rfl ?_
  refine ww_istore_n C dX3_commonDivisor_1 (lv' := [(2, .int (iZ ((a : Nat) : Int))), (0, .int (iZ ((a : Nat) : Int))), (1, .int (iZ ((b : Nat) : Int)))]) (by rw [hkL]; decide) rfl ?_
  refine ww_iload_n C dX3_commonDivisor_2 2 rfl ?_
  refine ww_istore_n C dX3_commonDivisor_3 (lv' := [(3, .int (iZ ((b : Nat) : Int))), (2, .int (iZ ((a : Nat) : Int))), (0, .int (iZ ((a : Nat) : Int))), (1, .int (iZ ((b : Nat) : Int)))]) (by rw [hkL]; decide) rfl ?_
  refine ww_iconst C dX3_commonDivisor_4 ?_
  refine ww_istore C dX3_commonDivisor_5 (lv' := [(4, .int (iZ 0)), (3, .int (iZ ((b : Nat) : Int))), (2, .int (iZ ((a : Nat) : Int))), (0, .int (iZ ((a : Nat) : Int))), (1, .int (iZ ((b : Nat) : Int)))]) (by rw [hkL]; decide) rfl ?_
  have L_7 : ∀ (fuel : Nat) (n x y : Nat) (hn : n + y ≤ b) (hx : x < 64) (hg : Nat.gcd x y = Nat.gcd a b), 64 - n < fuel → WW w k 7 [(2, .int (iZ ((x : Nat) : Int))), (3, .int (iZ ((y : Nat) : Int))), (4, .int (iZ ((n : Nat) : Int)))] [] M := by
    intro fuel
    induction fuel with
    | zero => intro n x y hn hx hg hf_7; exact absurd hf_7 (Nat.not_lt_zero _)
    | succ fuel ih_7 =>
      intro n x y hn hx hg hf_7
      refine ww_iload C dX3_commonDivisor_7 2 rfl ?_
      refine ww_bipush C dX3_commonDivisor_9 (by decide) ?_
      refine ww_icmp_ge C 34 dX3_commonDivisor_11 (by decide) (by omega) (by omega) (fun c_11 => ?_) (fun c_11 => ?_)
      · refine ww_iload_n C dX3_commonDivisor_34 0 rfl ?_
        exact RT _ _ _ _ dX3_commonDivisor_35 (⟨by have e9 : y = 0 := (by omega); rw [← hg, e9, Nat.gcd_zero_right], rfl⟩)
      · refine ww_iload_n C dX3_commonDivisor_14 1 rfl ?_
        refine ww_if_eq C 34 dX3_commonDivisor_15 (by decide) (by omega) (fun c_15 => ?_) (fun c_15 => ?_)
        · refine ww_iload_n C dX3_commonDivisor_34 0 rfl ?_
          exact RT _ _ _ _ dX3_commonDivisor_35 (⟨by have e9 : y = 0 := (by omega); rw [← hg, e9, Nat.gcd_zero_right], rfl⟩)
        · refine ww_iload_n C dX3_commonDivisor_18 0 rfl ?_
          refine ww_iload_n C dX3_commonDivisor_19 1 rfl ?_
          refine ww_iremN C dX3_commonDivisor_20 (by omega) (by omega) ?_
          refine ww_top (b := ((x % y : Nat) : Int)) (by rw [Int.natCast_emod]) ?_
          refine ww_istore C dX3_commonDivisor_21 (lv' := [(5, .int (iZ ((x % y : Nat) : Int))), (2, .int (iZ ((x : Nat) : Int))), (3, .int (iZ ((y : Nat) : Int))), (4, .int (iZ ((n : Nat) : Int)))]) (by rw [hkL]; decide) rfl ?_
          refine ww_iload_n C dX3_commonDivisor_23 2 rfl ?_
          refine ww_istore_n C dX3_commonDivisor_24 (lv' := [(2, .int (iZ ((y : Nat) : Int))), (5, .int (iZ ((x % y : Nat) : Int))), (3, .int (iZ ((y : Nat) : Int))), (4, .int (iZ ((n : Nat) : Int)))]) (by rw [hkL]; decide) rfl ?_
          refine ww_iload C dX3_commonDivisor_25 1 rfl ?_
          refine ww_istore_n C dX3_commonDivisor_27 (lv' := [(3, .int (iZ ((x % y : Nat) : Int))), (2, .int (iZ ((y : Nat) : Int))), (5, .int (iZ ((x % y : Nat) : Int))), (4, .int (iZ ((n : Nat) : Int)))]) (by rw [hkL]; decide) rfl ?_
          refine ww_iinc2 C dX3_commonDivisor_28 3 rfl (b := ((n + 1 : Nat) : Int)) (by omega) (lv' := [(4, .int (iZ ((n + 1 : Nat) : Int))), (3, .int (iZ ((x % y : Nat) : Int))), (2, .int (iZ ((y : Nat) : Int))), (5, .int (iZ ((x % y : Nat) : Int)))]) (by rw [hkL]; decide) rfl ?_
          refine ww_goto C 7 dX3_commonDivisor_31 (by decide) ?_
          refine ww_sub [2, 1, 0] rfl ?_
          exact ih_7 (n + 1) y (x % y) (by have e9 := Nat.mod_lt x (show 0 < y by omega); omega) (by omega) (by rw [Nat.gcd_comm y, ← Nat.gcd_rec, Nat.gcd_comm]; exact hg) (by omega)
  refine ww_sub [2, 1, 0] rfl ?_
  exact L_7 _ 0 a b (by omega) (by omega) (rfl) (Nat.lt_succ_self _)
set_option maxRecDepth 100000 in
set_option maxHeartbeats 4000000 in
theorem ct_X3_findAcross (w : WLD) (M : Mem) (o t : Nat) (ho : o < 3) (ht : t < 3) (h2 : Nu2 (M 23)) : CtI w yX3_findAcross cX3_findAcross 10 (some .boolean) rm_X3_findAcross [.ref (wa w 19), .int (iZ ((o : Nat) : Int)), .int (iZ ((t : Nat) : Int))] M (fun z M1 => (crG (M 23) o t ≠ 0 ∧ z = 1 ∧ M1 = ups M 24 (up1 (up1 (up1 (M 24) 0 ((crI (M 23) o t).tdiv ((crG (M 23) o t : Nat) : Int))) 1 ((crJ (M 23) o t).tdiv ((crG (M 23) o t : Nat) : Int))) 2 ((crK (M 23) o t).tdiv ((crG (M 23) o t : Nat) : Int)))) ∨ (crG (M 23) o t = 0 ∧ z = 0 ∧ M1 = M)) := by
  refine CtI.ofZ (by decide) (Nat.le_of_ble_eq_true rfl) rfl rfl (fun z M9 h9 => by rcases h9 with h9 | h9; exact Or.inr h9.2.1; exact Or.inl h9.2.1) ?_
  intro k hkL C RT
  have a0 := h2 (3 * o) (by omega)
  have a1 := h2 (3 * o + 1) (by omega)
  have a2 := h2 (3 * o + 2) (by omega)
  have b0 := h2 (3 * t) (by omega)
  have b1 := h2 (3 * t + 1) (by omega)
  have b2 := h2 (3 * t + 2) (by omega)
  have cb := cr_b (nu := M 23) h2 ho ht
  have ci := aZ_b cb.1.1 cb.1.2
  have cj := aZ_b cb.2.1.1 cb.2.1.2
  have ck := aZ_b cb.2.2.1 cb.2.2.2
  have gl := gcd_le8 (a := (aZ (crI (M 23) o t)).toNat) (b := (aZ (crJ (M 23) o t)).toNat) (c := (aZ (crK (M 23) o t)).toNat) (by omega) (by omega) (by omega)
  have gl2 : crG (M 23) o t ≤ 8 := gl.2
  show WW w k 0 [(0, .ref (wa w 19)), (1, .int (iZ ((o : Nat) : Int))), (2, .int (iZ ((t : Nat) : Int)))] [] M
  refine ww_aload_n C dX3_findAcross_0 0 rfl ?_
  refine gt_X3_29 C dX3_findAcross_1 ?_
  refine gt_X3_98 C (Or.inr (Or.inr rfl)) dX3_findAcross_4 ?_
  refine ww_astore_n C dX3_findAcross_7 (lv' := [(3, .ref (wa w 23)), (0, .ref (wa w 19)), (1, .int (iZ ((o : Nat) : Int))), (2, .int (iZ ((t : Nat) : Int)))]) (by rw [hkL]; decide) rfl ?_
  refine ww_iconst C dX3_findAcross_8 ?_
  refine ww_iload_n C dX3_findAcross_9 2 rfl ?_
  refine ww_imul C dX3_findAcross_10 ?_
  refine ww_istore C dX3_findAcross_11 (lv' := [(4, .int (iZ (3 * ((o : Nat) : Int)))), (3, .ref (wa w 23)), (0, .ref (wa w 19)), (1, .int (iZ ((o : Nat) : Int))), (2, .int (iZ ((t : Nat) : Int)))]) (by rw [hkL]; decide) rfl ?_
  refine ww_iconst C dX3_findAcross_13 ?_
  refine ww_iload_n C dX3_findAcross_14 4 rfl ?_
  refine ww_imul C dX3_findAcross_15 ?_
  refine ww_istore C dX3_findAcross_16 (lv' := [(5, .int (iZ (3 * ((t : Nat) : Int)))), (4, .int (iZ (3 * ((o : Nat) : Int)))), (3, .ref (wa w 23)), (0, .ref (wa w 19)), (1, .int (iZ ((o : Nat) : Int))), (2, .int (iZ ((t : Nat) : Int)))]) (by rw [hkL]; decide) rfl ?_
  refine ww_aload_n C dX3_findAcross_18 2 rfl ?_
  refine ww_iload C dX3_findAcross_19 1 rfl ?_
  refine ww_iconst C dX3_findAcross_21 ?_
  refine ww_iadd C dX3_findAcross_22 ?_
  refine al_23 C (3 * o + 1) (z := M 23 (3 * o + 1)) (by omega) (by omega) rfl dX3_findAcross_23 ?_
  refine ww_aload_n C dX3_findAcross_24 2 rfl ?_
  refine ww_iload C dX3_findAcross_25 0 rfl ?_
  refine ww_iconst C dX3_findAcross_27 ?_
  refine ww_iadd C dX3_findAcross_28 ?_
  refine al_23 C (3 * t + 2) (z := M 23 (3 * t + 2)) (by omega) (by omega) rfl dX3_findAcross_29 ?_
  refine ww_imul C dX3_findAcross_30 ?_
  refine ww_aload_n C dX3_findAcross_31 2 rfl ?_
  refine ww_iload C dX3_findAcross_32 1 rfl ?_
  refine ww_iconst C dX3_findAcross_34 ?_
  refine ww_iadd C dX3_findAcross_35 ?_
  refine al_23 C (3 * o + 2) (z := M 23 (3 * o + 2)) (by omega) (by omega) rfl dX3_findAcross_36 ?_
  refine ww_aload_n C dX3_findAcross_37 2 rfl ?_
  refine ww_iload C dX3_findAcross_38 0 rfl ?_
  refine ww_iconst C dX3_findAcross_40 ?_
  refine ww_iadd C dX3_findAcross_41 ?_
  refine al_23 C (3 * t + 1) (z := M 23 (3 * t + 1)) (by omega) (by omega) rfl dX3_findAcross_42 ?_
  refine ww_imul C dX3_findAcross_43 ?_
  refine ww_isub C dX3_findAcross_44 ?_
  refine ww_top (b := crI (M 23) o t) (rfl) ?_
  refine ww_istore C dX3_findAcross_45 (lv' := [(6, .int (iZ (crI (M 23) o t))), (5, .int (iZ (3 * ((t : Nat) : Int)))), (4, .int (iZ (3 * ((o : Nat) : Int)))), (3, .ref (wa w 23)), (0, .ref (wa w 19)), (1, .int (iZ ((o : Nat) : Int))), (2, .int (iZ ((t : Nat) : Int)))]) (by rw [hkL]; decide) rfl ?_
  refine ww_aload_n C dX3_findAcross_47 3 rfl ?_
  refine ww_iload C dX3_findAcross_48 2 rfl ?_
  refine ww_iconst C dX3_findAcross_50 ?_
  refine ww_iadd C dX3_findAcross_51 ?_
  refine al_23 C (3 * o + 2) (z := M 23 (3 * o + 2)) (by omega) (by omega) rfl dX3_findAcross_52 ?_
  refine ww_aload_n C dX3_findAcross_53 3 rfl ?_
  refine ww_iload C dX3_findAcross_54 1 rfl ?_
  refine al_23 C (3 * t) (z := M 23 (3 * t)) (by omega) (by omega) rfl dX3_findAcross_56 ?_
  refine ww_imul C dX3_findAcross_57 ?_
  refine ww_aload_n C dX3_findAcross_58 3 rfl ?_
  refine ww_iload C dX3_findAcross_59 2 rfl ?_
  refine al_23 C (3 * o) (z := M 23 (3 * o)) (by omega) (by omega) rfl dX3_findAcross_61 ?_
  refine ww_aload_n C dX3_findAcross_62 3 rfl ?_
  refine ww_iload C dX3_findAcross_63 1 rfl ?_
  refine ww_iconst C dX3_findAcross_65 ?_
  refine ww_iadd C dX3_findAcross_66 ?_
  refine al_23 C (3 * t + 2) (z := M 23 (3 * t + 2)) (by omega) (by omega) rfl dX3_findAcross_67 ?_
  refine ww_imul C dX3_findAcross_68 ?_
  refine ww_isub C dX3_findAcross_69 ?_
  refine ww_top (b := crJ (M 23) o t) (rfl) ?_
  refine ww_istore C dX3_findAcross_70 (lv' := [(7, .int (iZ (crJ (M 23) o t))), (6, .int (iZ (crI (M 23) o t))), (5, .int (iZ (3 * ((t : Nat) : Int)))), (4, .int (iZ (3 * ((o : Nat) : Int)))), (3, .ref (wa w 23)), (0, .ref (wa w 19)), (1, .int (iZ ((o : Nat) : Int))), (2, .int (iZ ((t : Nat) : Int)))]) (by rw [hkL]; decide) rfl ?_
  refine ww_aload_n C dX3_findAcross_72 4 rfl ?_
  refine ww_iload C dX3_findAcross_73 3 rfl ?_
  refine al_23 C (3 * o) (z := M 23 (3 * o)) (by omega) (by omega) rfl dX3_findAcross_75 ?_
  refine ww_aload_n C dX3_findAcross_76 4 rfl ?_
  refine ww_iload C dX3_findAcross_77 2 rfl ?_
  refine ww_iconst C dX3_findAcross_79 ?_
  refine ww_iadd C dX3_findAcross_80 ?_
  refine al_23 C (3 * t + 1) (z := M 23 (3 * t + 1)) (by omega) (by omega) rfl dX3_findAcross_81 ?_
  refine ww_imul C dX3_findAcross_82 ?_
  refine ww_aload_n C dX3_findAcross_83 4 rfl ?_
  refine ww_iload C dX3_findAcross_84 3 rfl ?_
  refine ww_iconst C dX3_findAcross_86 ?_
  refine ww_iadd C dX3_findAcross_87 ?_
  refine al_23 C (3 * o + 1) (z := M 23 (3 * o + 1)) (by omega) (by omega) rfl dX3_findAcross_88 ?_
  refine ww_aload_n C dX3_findAcross_89 4 rfl ?_
  refine ww_iload C dX3_findAcross_90 2 rfl ?_
  refine al_23 C (3 * t) (z := M 23 (3 * t)) (by omega) (by omega) rfl dX3_findAcross_92 ?_
  refine ww_imul C dX3_findAcross_93 ?_
  refine ww_isub C dX3_findAcross_94 ?_
  refine ww_top (b := crK (M 23) o t) (rfl) ?_
  refine ww_istore C dX3_findAcross_95 (lv' := [(8, .int (iZ (crK (M 23) o t))), (7, .int (iZ (crJ (M 23) o t))), (6, .int (iZ (crI (M 23) o t))), (5, .int (iZ (3 * ((t : Nat) : Int)))), (4, .int (iZ (3 * ((o : Nat) : Int)))), (3, .ref (wa w 23)), (0, .ref (wa w 19)), (1, .int (iZ ((o : Nat) : Int))), (2, .int (iZ ((t : Nat) : Int)))]) (by rw [hkL]; decide) rfl ?_
  refine ww_iload C dX3_findAcross_97 2 rfl ?_
  refine ww_abs C ml_X3_101 (by omega) (by decide) (Nat.le_of_ble_eq_true rfl) dX3_findAcross_99 ?_
  refine ww_top (b := (((aZ (crI (M 23) o t)).toNat : Nat) : Int)) (by omega) ?_
  refine ww_iload C dX3_findAcross_102 1 rfl ?_
  refine ww_abs C ml_X3_101 (by omega) (by decide) (Nat.le_of_ble_eq_true rfl) dX3_findAcross_104 ?_
  refine ww_top (b := (((aZ (crJ (M 23) o t)).toNat : Nat) : Int)) (by omega) ?_
  refine ww_iload C dX3_findAcross_107 0 rfl ?_
  refine ww_abs C ml_X3_101 (by omega) (by decide) (Nat.le_of_ble_eq_true rfl) dX3_findAcross_109 ?_
  refine ww_top (b := (((aZ (crK (M 23) o t)).toNat : Nat) : Int)) (by omega) ?_
  refine ww_callS C (As := [.int (iZ (((aZ (crJ (M 23) o t)).toNat : Nat) : Int)), .int (iZ (((aZ (crK (M 23) o t)).toNat : Nat) : Int))]) (ct_X3_commonDivisor w M ((aZ (crJ (M 23) o t)).toNat) ((aZ (crK (M 23) o t)).toNat) (by omega) (by omega)) mf_X3_commonDivisor ml_X3_105 (by decide) rfl rfl (Nat.le_of_ble_eq_true rfl) dX3_findAcross_112 (fun z_112 M_112 hp_112 => ?_)
  rw [hp_112.1, hp_112.2]
  refine ww_callS C (As := [.int (iZ (((aZ (crI (M 23) o t)).toNat : Nat) : Int)), .int (iZ ((Nat.gcd ((aZ (crJ (M 23) o t)).toNat) ((aZ (crK (M 23) o t)).toNat) : Nat) : Int))]) (ct_X3_commonDivisor w M ((aZ (crI (M 23) o t)).toNat) (Nat.gcd ((aZ (crJ (M 23) o t)).toNat) ((aZ (crK (M 23) o t)).toNat)) (by omega) (by omega)) mf_X3_commonDivisor ml_X3_105 (by decide) rfl rfl (Nat.le_of_ble_eq_true rfl) dX3_findAcross_115 (fun z_115 M_115 hp_115 => ?_)
  rw [hp_115.1, hp_115.2]
  refine ww_top (b := ((crG (M 23) o t : Nat) : Int)) (rfl) ?_
  refine ww_istore C dX3_findAcross_118 (lv' := [(9, .int (iZ ((crG (M 23) o t : Nat) : Int))), (8, .int (iZ (crK (M 23) o t))), (7, .int (iZ (crJ (M 23) o t))), (6, .int (iZ (crI (M 23) o t))), (5, .int (iZ (3 * ((t : Nat) : Int)))), (4, .int (iZ (3 * ((o : Nat) : Int)))), (3, .ref (wa w 23)), (0, .ref (wa w 19)), (1, .int (iZ ((o : Nat) : Int))), (2, .int (iZ ((t : Nat) : Int)))]) (by rw [hkL]; decide) rfl ?_
  refine ww_iload C dX3_findAcross_120 0 rfl ?_
  refine ww_if_ne C 127 dX3_findAcross_122 (by decide) (by omega) (fun c_122 => ?_) (fun c_122 => ?_)
  · refine ww_aload_n C dX3_findAcross_127 7 rfl ?_
    refine gt_X3_32 C dX3_findAcross_128 ?_
    refine ww_iconst C dX3_findAcross_131 ?_
    refine ww_iload C dX3_findAcross_132 3 rfl ?_
    refine ww_iload C dX3_findAcross_134 0 rfl ?_
    refine ww_idiv C dX3_findAcross_136 (by omega) (by omega) (by omega) ?_
    refine as_24 C 0 rfl (by omega) dX3_findAcross_137 ?_
    refine ww_aload_n C dX3_findAcross_138 7 rfl ?_
    refine gt_X3_32 C dX3_findAcross_139 ?_
    refine ww_iconst C dX3_findAcross_142 ?_
    refine ww_iload C dX3_findAcross_143 2 rfl ?_
    refine ww_iload C dX3_findAcross_145 0 rfl ?_
    refine ww_idiv C dX3_findAcross_147 (by omega) (by omega) (by omega) ?_
    refine as_24 C 1 rfl (by omega) dX3_findAcross_148 ?_
    refine ww_mem (M1 := ups M 24 (up1 (up1 (M 24) 0 ((crI (M 23) o t).tdiv ((crG (M 23) o t : Nat) : Int))) 1 ((crJ (M 23) o t).tdiv ((crG (M 23) o t : Nat) : Int)))) (ups_ups) ?_
    refine ww_aload_n C dX3_findAcross_149 7 rfl ?_
    refine gt_X3_32 C dX3_findAcross_150 ?_
    refine ww_iconst C dX3_findAcross_153 ?_
    refine ww_iload C dX3_findAcross_154 1 rfl ?_
    refine ww_iload C dX3_findAcross_156 0 rfl ?_
    refine ww_idiv C dX3_findAcross_158 (by omega) (by omega) (by omega) ?_
    refine as_24 C 2 rfl (by omega) dX3_findAcross_159 ?_
    refine ww_mem (M1 := ups M 24 (up1 (up1 (up1 (M 24) 0 ((crI (M 23) o t).tdiv ((crG (M 23) o t : Nat) : Int))) 1 ((crJ (M 23) o t).tdiv ((crG (M 23) o t : Nat) : Int))) 2 ((crK (M 23) o t).tdiv ((crG (M 23) o t : Nat) : Int)))) (ups_ups) ?_
    refine ww_iconst C dX3_findAcross_160 ?_
    exact RT _ _ _ _ dX3_findAcross_161 (Or.inl ⟨by omega, rfl, rfl⟩)
  · refine ww_iconst C dX3_findAcross_125 ?_
    exact RT _ _ _ _ dX3_findAcross_126 (Or.inr ⟨by omega, rfl, rfl⟩)
set_option maxRecDepth 100000 in
set_option maxHeartbeats 4000000 in
theorem ct_X3_countBehind (w : WLD) (M : Mem) (hs : SzOk (M 2)) (hac : ∀ d : Nat, -8 ≤ M 24 d ∧ M 24 d ≤ 8) : CtI w yX3_countBehind cX3_countBehind 4 (some .int) rm_X3_countBehind [.ref (wa w 19), .ref (wa w 1)] M (fun z M1 => z = bhZ (M 2) (M 24) ∧ M1 = M) := by
  refine CtI.of (by decide) (Nat.le_of_ble_eq_true rfl) rfl rfl ?_
  intro k hkL C RT
  have c0 := hac 0
  have c1 := hac 1
  have c2 := hac 2
  have d0 := aZ_b c0.1 c0.2
  have d1 := aZ_b c1.1 c1.2
  have d2 := aZ_b c2.1 c2.2
  show WW w k 0 [(0, .ref (wa w 19)), (1, .ref (wa w 1))] [] M
  refine ww_iconst C dX3_countBehind_0 ?_
  refine ww_istore_n C dX3_countBehind_1 (lv' := [(2, .int (iZ 1)), (0, .ref (wa w 19)), (1, .ref (wa w 1))]) (by rw [hkL]; decide) rfl ?_
  refine ww_iconst C dX3_countBehind_2 ?_
  refine ww_istore_n C dX3_countBehind_3 (lv' := [(3, .int (iZ 0)), (2, .int (iZ 1)), (0, .ref (wa w 19)), (1, .ref (wa w 1))]) (by rw [hkL]; decide) rfl ?_
  refine ww_iload_n C dX3_countBehind_4 0 rfl ?_
  refine ww_iconst C dX3_countBehind_5 ?_
  refine ww_icmp_ge C 38 dX3_countBehind_6 (by decide) (by omega) (by omega) (fun c_6 => ?_) (fun c_6 => ?_)
  · exact absurd c_6 (by decide)
  · refine ww_iload_n C dX3_countBehind_9 1 rfl ?_
    refine ww_iconst C dX3_countBehind_10 ?_
    refine ww_aload_n C dX3_countBehind_11 3 rfl ?_
    refine gt_X3_108 C dX3_countBehind_12 ?_
    refine ww_iload_n C dX3_countBehind_15 0 rfl ?_
    refine al_2 C 0 (z := M 2 0) rfl (by omega) rfl dX3_countBehind_16 ?_
    refine ww_aload_n C dX3_countBehind_17 2 rfl ?_
    refine gt_X3_32 C dX3_countBehind_18 ?_
    refine ww_iload_n C dX3_countBehind_21 0 rfl ?_
    refine al_24 C 0 (z := M 24 0) rfl (by omega) rfl dX3_countBehind_22 ?_
    refine ww_abs C ml_X3_101 (by omega) (by decide) (Nat.le_of_ble_eq_true rfl) dX3_countBehind_23 ?_
    refine ww_isub C dX3_countBehind_26 ?_
    refine ww_max C ml_X3_69 (by omega) (by omega) (by decide) (Nat.le_of_ble_eq_true rfl) dX3_countBehind_27 ?_
    refine ww_imul C dX3_countBehind_30 ?_
    refine ww_istore_n C dX3_countBehind_31 (lv' := [(2, .int (iZ (1 * (max 0 ((M 2 0) - (aZ (M 24 0))))))), (3, .int (iZ 0)), (0, .ref (wa w 19)), (1, .ref (wa w 1))]) (by rw [hkL]; decide) rfl ?_
    refine ww_iinc2 C dX3_countBehind_32 1 rfl (b := 1) (by omega) (lv' := [(3, .int (iZ 1)), (2, .int (iZ (1 * (max 0 ((M 2 0) - (aZ (M 24 0))))))), (0, .ref (wa w 19)), (1, .ref (wa w 1))]) (by rw [hkL]; decide) rfl ?_
    refine ww_goto C 4 dX3_countBehind_35 (by decide) ?_
    refine ww_iload_n C dX3_countBehind_4 0 rfl ?_
    refine ww_iconst C dX3_countBehind_5 ?_
    refine ww_icmp_ge C 38 dX3_countBehind_6 (by decide) (by omega) (by omega) (fun c_6 => ?_) (fun c_6 => ?_)
    · exact absurd c_6 (by decide)
    · refine ww_iload_n C dX3_countBehind_9 1 rfl ?_
      refine ww_iconst C dX3_countBehind_10 ?_
      refine ww_aload_n C dX3_countBehind_11 3 rfl ?_
      refine gt_X3_108 C dX3_countBehind_12 ?_
      refine ww_iload_n C dX3_countBehind_15 0 rfl ?_
      refine al_2 C 1 (z := M 2 1) rfl (by omega) rfl dX3_countBehind_16 ?_
      refine ww_aload_n C dX3_countBehind_17 2 rfl ?_
      refine gt_X3_32 C dX3_countBehind_18 ?_
      refine ww_iload_n C dX3_countBehind_21 0 rfl ?_
      refine al_24 C 1 (z := M 24 1) rfl (by omega) rfl dX3_countBehind_22 ?_
      refine ww_abs C ml_X3_101 (by omega) (by decide) (Nat.le_of_ble_eq_true rfl) dX3_countBehind_23 ?_
      refine ww_isub C dX3_countBehind_26 ?_
      refine ww_max C ml_X3_69 (by omega) (by omega) (by decide) (Nat.le_of_ble_eq_true rfl) dX3_countBehind_27 ?_
      refine ww_imul C dX3_countBehind_30 ?_
      refine ww_istore_n C dX3_countBehind_31 (lv' := [(2, .int (iZ ((1 * (max 0 ((M 2 0) - (aZ (M 24 0))))) * (max 0 ((M 2 1) - (aZ (M 24 1))))))), (3, .int (iZ 1)), (0, .ref (wa w 19)), (1, .ref (wa w 1))]) (by rw [hkL]; decide) rfl ?_
      refine ww_iinc2 C dX3_countBehind_32 1 rfl (b := 2) (by omega) (lv' := [(3, .int (iZ 2)), (2, .int (iZ ((1 * (max 0 ((M 2 0) - (aZ (M 24 0))))) * (max 0 ((M 2 1) - (aZ (M 24 1))))))), (0, .ref (wa w 19)), (1, .ref (wa w 1))]) (by rw [hkL]; decide) rfl ?_
      refine ww_goto C 4 dX3_countBehind_35 (by decide) ?_
      refine ww_iload_n C dX3_countBehind_4 0 rfl ?_
      refine ww_iconst C dX3_countBehind_5 ?_
      refine ww_icmp_ge C 38 dX3_countBehind_6 (by decide) (by omega) (by omega) (fun c_6 => ?_) (fun c_6 => ?_)
      · exact absurd c_6 (by decide)
      · refine ww_iload_n C dX3_countBehind_9 1 rfl ?_
        refine ww_iconst C dX3_countBehind_10 ?_
        refine ww_aload_n C dX3_countBehind_11 3 rfl ?_
        refine gt_X3_108 C dX3_countBehind_12 ?_
        refine ww_iload_n C dX3_countBehind_15 0 rfl ?_
        refine al_2 C 2 (z := M 2 2) rfl (by omega) rfl dX3_countBehind_16 ?_
        refine ww_aload_n C dX3_countBehind_17 2 rfl ?_
        refine gt_X3_32 C dX3_countBehind_18 ?_
        refine ww_iload_n C dX3_countBehind_21 0 rfl ?_
        refine al_24 C 2 (z := M 24 2) rfl (by omega) rfl dX3_countBehind_22 ?_
        refine ww_abs C ml_X3_101 (by omega) (by decide) (Nat.le_of_ble_eq_true rfl) dX3_countBehind_23 ?_
        refine ww_isub C dX3_countBehind_26 ?_
        refine ww_max C ml_X3_69 (by omega) (by omega) (by decide) (Nat.le_of_ble_eq_true rfl) dX3_countBehind_27 ?_
        refine ww_imul C dX3_countBehind_30 ?_
        refine ww_istore_n C dX3_countBehind_31 (lv' := [(2, .int (iZ (((1 * (max 0 ((M 2 0) - (aZ (M 24 0))))) * (max 0 ((M 2 1) - (aZ (M 24 1))))) * (max 0 ((M 2 2) - (aZ (M 24 2))))))), (3, .int (iZ 2)), (0, .ref (wa w 19)), (1, .ref (wa w 1))]) (by rw [hkL]; decide) rfl ?_
        refine ww_iinc2 C dX3_countBehind_32 1 rfl (b := 3) (by omega) (lv' := [(3, .int (iZ 3)), (2, .int (iZ (((1 * (max 0 ((M 2 0) - (aZ (M 24 0))))) * (max 0 ((M 2 1) - (aZ (M 24 1))))) * (max 0 ((M 2 2) - (aZ (M 24 2))))))), (0, .ref (wa w 19)), (1, .ref (wa w 1))]) (by rw [hkL]; decide) rfl ?_
        refine ww_goto C 4 dX3_countBehind_35 (by decide) ?_
        refine ww_iload_n C dX3_countBehind_4 0 rfl ?_
        refine ww_iconst C dX3_countBehind_5 ?_
        refine ww_icmp_ge C 38 dX3_countBehind_6 (by decide) (by omega) (by omega) (fun c_6 => ?_) (fun c_6 => ?_)
        · refine ww_iload_n C dX3_countBehind_38 1 rfl ?_
          exact RT _ _ _ _ dX3_countBehind_39 (⟨by unfold bhZ; rw [Int.one_mul], rfl⟩)
        · exact absurd c_6 (by decide)
set_option maxRecDepth 100000 in
set_option maxHeartbeats 4000000 in
theorem ct_X3_spell (w : WLD) (M : Mem) (q n b : Nat) (hq : q < 3) (hb : b = 1 ∨ b = 2) (hn : n < 125) : CtV w yX3_spell cX3_spell 5 rm_X3_spell [.ref (wa w 19), .int (iZ ((q : Nat) : Int)), .int (iZ ((n : Nat) : Int)), .int (iZ ((b : Nat) : Int))] M (fun M1 => M1 = ups M 23 (up1 (up1 (up1 (M 23) (3 * q) (spA b n)) (3 * q + 1) (spB b n)) (3 * q + 2) (spC b n))) := by
  refine CtV.of (by decide) (Nat.le_of_ble_eq_true rfl) rfl rfl ?_
  intro k hkL C RT
  show WW w k 0 [(0, .ref (wa w 19)), (1, .int (iZ ((q : Nat) : Int))), (2, .int (iZ ((n : Nat) : Int))), (3, .int (iZ ((b : Nat) : Int)))] [] M
  refine ww_iconst C dX3_spell_0 ?_
  refine ww_iconst C dX3_spell_1 ?_
  refine ww_iload_n C dX3_spell_2 3 rfl ?_
  refine ww_imul C dX3_spell_3 ?_
  refine ww_iconst C dX3_spell_4 ?_
  refine ww_iadd C dX3_spell_5 ?_
  refine ww_max C ml_X3_69 (by omega) (by omega) (by decide) (Nat.le_of_ble_eq_true rfl) dX3_spell_6 ?_
  refine ww_top (b := ((2 * b + 1 : Nat) : Int)) (by omega) ?_
  refine ww_istore C dX3_spell_9 (lv' := [(4, .int (iZ ((2 * b + 1 : Nat) : Int))), (0, .ref (wa w 19)), (1, .int (iZ ((q : Nat) : Int))), (2, .int (iZ ((n : Nat) : Int))), (3, .int (iZ ((b : Nat) : Int)))]) (by rw [hkL]; decide) rfl ?_
  refine ww_aload_n C dX3_spell_11 1 rfl ?_
  refine gt_X3_29 C dX3_spell_12 ?_
  refine ww_iload_n C dX3_spell_15 2 rfl ?_
  refine ww_iload_n C dX3_spell_16 3 rfl ?_
  refine ww_iload C dX3_spell_17 0 rfl ?_
  refine ww_iload C dX3_spell_19 0 rfl ?_
  refine ww_imul C dX3_spell_21 ?_
  refine ww_top (b := (((2 * b + 1) * (2 * b + 1) : Nat) : Int)) (by rw [Int.natCast_mul]) ?_
  refine ww_idivN C dX3_spell_22 (by omega) (by rcases hb with rfl | rfl <;> decide) ?_
  refine ww_top (b := ((n / ((2 * b + 1) * (2 * b + 1)) : Nat) : Int)) (by rw [Int.natCast_ediv]) ?_
  refine ww_iload_n C dX3_spell_23 4 rfl ?_
  refine ww_isub C dX3_spell_24 ?_
  refine ww_top (b := spA b n) (rfl) ?_
  refine ww_iload_n C dX3_spell_25 3 rfl ?_
  refine ww_iload C dX3_spell_26 0 rfl ?_
  refine ww_idivN C dX3_spell_28 (by omega) (by omega) ?_
  refine ww_top (b := ((n / (2 * b + 1) : Nat) : Int)) (by rw [Int.natCast_ediv]) ?_
  refine ww_iload C dX3_spell_29 0 rfl ?_
  refine ww_iremN C dX3_spell_31 (by have e9 := Nat.div_le_self n (2 * b + 1); have e8 := Int.natCast_nonneg (n / (2 * b + 1)); omega) (by omega) ?_
  refine ww_top (b := ((n / (2 * b + 1) % (2 * b + 1) : Nat) : Int)) (by rw [Int.natCast_emod]) ?_
  refine ww_iload_n C dX3_spell_32 4 rfl ?_
  refine ww_isub C dX3_spell_33 ?_
  refine ww_top (b := spB b n) (rfl) ?_
  refine ww_iload_n C dX3_spell_34 3 rfl ?_
  refine ww_iload C dX3_spell_35 0 rfl ?_
  refine ww_iremN C dX3_spell_37 (by omega) (by omega) ?_
  refine ww_top (b := ((n % (2 * b + 1) : Nat) : Int)) (by rw [Int.natCast_emod]) ?_
  refine ww_iload_n C dX3_spell_38 4 rfl ?_
  refine ww_isub C dX3_spell_39 ?_
  refine ww_top (b := spC b n) (rfl) ?_
  refine ww_callVV C (As := [.int (iZ ((q : Nat) : Int)), .int (iZ (spA b n)), .int (iZ (spB b n)), .int (iZ (spC b n))]) 22 (pl_lt (Or.inr (Or.inr rfl))) (ct_X1_put w M 22 q (spA b n) (spB b n) (spC b n) (Or.inr (Or.inr rfl)) (by omega)) mf_X1_put ml_X3_75 (pl_cell (Or.inr (Or.inr rfl)) _) rfl (by decide) rfl rfl (Nat.le_of_ble_eq_true rfl) dX3_spell_40 (fun M_40 hp_40 => ?_)
  rw [hp_40]
  refine ww_mem (M1 := ups M (22 + 1) (up1 (up1 (up1 (M (22 + 1)) (3 * q) (spA b n)) (3 * q + 1) (spB b n)) (3 * q + 2) (spC b n))) rfl ?_
  refine ww_mem (M1 := ups M 23 (up1 (up1 (up1 (M 23) (3 * q) (spA b n)) (3 * q + 1) (spB b n)) (3 * q + 2) (spC b n))) (rfl) ?_
  exact RT _ _ _ dX3_spell_43 (rfl)
