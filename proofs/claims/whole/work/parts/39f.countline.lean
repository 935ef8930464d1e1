/-- the inner loop: m more steps of the size e -/
theorem cl_in {w : WLD} {k : KX} {M : Mem} (C : Cx w k cX3_countLine RX3 rm_X3_countLine) (hkL : kL k = 7) (hs : SzOk (M 2)) (d : Nat) (hd : d < 3) (e : Int) (he : e = 0 ∨ e = 1 ∨ e = 2) : ∀ (m n A B : Nat), ((n + m : Nat) : Int) = M 2 d → A + B + m < 22 →
    WW w k 56 [(6, .int (iZ (((n + m : Nat) : Nat) : Int))), (2, .long (TL (A + adA e m) (B + adB e m))), (5, .int (iZ e)), (4, .int (iZ (d : Int))), (0, .ref (wa w 19)), (1, .ref (wa w 1))] [] M → WW w k 31 [(6, .int (iZ ((n : Nat) : Int))), (2, .long (TL A B)), (5, .int (iZ e)), (4, .int (iZ (d : Int))), (0, .ref (wa w 19)), (1, .ref (wa w 1))] [] M := by
  have hsd : 1 ≤ M 2 d ∧ M 2 d ≤ 8 := by rcases (show d = 0 ∨ d = 1 ∨ d = 2 by omega) with rfl | rfl | rfl <;> omega
  intro m
  induction m with
  | zero =>
    intro n A B hn hab kk
    have e1 : A + adA e 0 = A := by unfold adA; split <;> omega
    have e2 : B + adB e 0 = B := by unfold adB; split <;> omega
    rw [e1, e2] at kk
    refine ww_iload C dX3_countLine_31 0 rfl ?_
    refine ww_aload_n C dX3_countLine_33 5 rfl ?_
    refine gt_X3_108 C dX3_countLine_34 ?_
    refine ww_iload C dX3_countLine_37 3 rfl ?_
    refine al_2 C d (z := M 2 d) rfl hd rfl dX3_countLine_39 ?_
    refine ww_icmp_ge C 56 dX3_countLine_40 (by decide) (by omega) (by omega) (fun _ => kk) (fun c => ?_)
    exact absurd (show M 2 d ≤ (n : Int) by omega) c
  | succ m ih =>
    intro n A B hn hab kk
    have a1 := ad_1 e m
    have a2 := ad_1 e 1
    refine ww_iload C dX3_countLine_31 0 rfl ?_
    refine ww_aload_n C dX3_countLine_33 5 rfl ?_
    refine gt_X3_108 C dX3_countLine_34 ?_
    refine ww_iload C dX3_countLine_37 3 rfl ?_
    refine al_2 C d (z := M 2 d) rfl hd rfl dX3_countLine_39 ?_
    refine ww_icmp_ge C 56 dX3_countLine_40 (by decide) (by omega) (by omega) (fun c => ?_) (fun c => ?_)
    · exact absurd c (by omega)
    · refine ww_lload_n C dX3_countLine_43 1 rfl ?_
      refine ww_lload_n C dX3_countLine_44 1 rfl ?_
      refine ww_iload C dX3_countLine_45 2 rfl ?_
      refine ww_lshl C dX3_countLine_47 ?_
      refine ww_lor C dX3_countLine_48 ?_
      rw [tl_stp he (show A + B < 21 by omega)]
      refine ww_lstore_n C dX3_countLine_49 (lv' := [(2, .long (TL (A + adA e 1) (B + adB e 1))), (6, .int (iZ ((n : Nat) : Int))), (5, .int (iZ e)), (4, .int (iZ (d : Int))), (0, .ref (wa w 19)), (1, .ref (wa w 1))]) (by rw [hkL]; decide) rfl ?_
      refine ww_iinc2 C dX3_countLine_50 1 rfl (b := ((n + 1 : Nat) : Int)) (by omega) (lv' := [(6, .int (iZ ((n + 1 : Nat) : Int))), (2, .long (TL (A + adA e 1) (B + adB e 1))), (5, .int (iZ e)), (4, .int (iZ (d : Int))), (0, .ref (wa w 19)), (1, .ref (wa w 1))]) (by rw [hkL]; decide) rfl ?_
      refine ww_goto C 31 dX3_countLine_53 (by decide) ?_
      refine ih (n + 1) (A + adA e 1) (B + adB e 1) (by omega) (by omega) ?_
      rw [show n + 1 + m = n + (m + 1) by omega, show A + adA e 1 + adA e m = A + adA e (m + 1) by omega, show B + adB e 1 + adB e m = B + adB e (m + 1) by omega]
      exact kk
/-- the outer loop: one more number of the first line -/
theorem cl_out {w : WLD} {k : KX} {M : Mem} (C : Cx w k cX3_countLine RX3 rm_X3_countLine) (hkL : kL k = 7) (hs : SzOk (M 2)) (h2 : Nu2 (M 23)) (d : Nat) (hd : d < 3) (A B : Nat) (hab : A + B ≤ 7 * d)
    (kk : WW w k 5 [(4, .int (iZ ((d + 1 : Nat) : Int))), (2, .long (TL (A + adA (aZ (M 23 (3 + d))) (M 2 d - 1).toNat) (B + adB (aZ (M 23 (3 + d))) (M 2 d - 1).toNat))), (0, .ref (wa w 19)), (1, .ref (wa w 1))] [] M) : WW w k 5 [(4, .int (iZ (d : Int))), (2, .long (TL A B)), (0, .ref (wa w 19)), (1, .ref (wa w 1))] [] M := by
  have hsd : 1 ≤ M 2 d ∧ M 2 d ≤ 8 := by rcases (show d = 0 ∨ d = 1 ∨ d = 2 by omega) with rfl | rfl | rfl <;> omega
  have hz := h2 (3 + d) (by omega)
  have he := aZ_c hz
  refine ww_iload C dX3_countLine_5 0 rfl ?_
  refine ww_iconst C dX3_countLine_7 ?_
  refine ww_icmp_ge C 62 dX3_countLine_8 (by decide) (by omega) (by omega) (fun c => ?_) (fun c => ?_)
  · exact absurd c (by omega)
  · refine ww_aload_n C dX3_countLine_11 2 rfl ?_
    refine gt_X3_29 C dX3_countLine_12 ?_
    refine gt_X3_98 C (Or.inr (Or.inr rfl)) dX3_countLine_15 ?_
    refine ww_iconst C dX3_countLine_18 ?_
    refine ww_iload C dX3_countLine_19 0 rfl ?_
    refine ww_iadd C dX3_countLine_21 ?_
    refine al_23 C (3 + d) (z := M 23 (3 + d)) (by omega) (by omega) rfl dX3_countLine_22 ?_
    refine ww_abs C ml_X3_101 (by omega) (by decide) (Nat.le_of_ble_eq_true rfl) dX3_countLine_23 ?_
    refine ww_istore C dX3_countLine_26 (lv' := [(5, .int (iZ (aZ (M 23 (3 + d))))), (4, .int (iZ (d : Int))), (2, .long (TL A B)), (0, .ref (wa w 19)), (1, .ref (wa w 1))]) (by rw [hkL]; decide) rfl ?_
    refine ww_iconst C dX3_countLine_28 ?_
    refine ww_istore C dX3_countLine_29 (lv' := [(6, .int (iZ 1)), (5, .int (iZ (aZ (M 23 (3 + d))))), (4, .int (iZ (d : Int))), (2, .long (TL A B)), (0, .ref (wa w 19)), (1, .ref (wa w 1))]) (by rw [hkL]; decide) rfl ?_
    refine ww_sub [0, 3, 1, 2, 4, 5] rfl ?_
    refine cl_in C hkL hs d hd (aZ (M 23 (3 + d))) he (M 2 d - 1).toNat 1 A B (by omega) (by omega) ?_
    refine ww_iinc2 C dX3_countLine_56 3 rfl (b := ((d + 1 : Nat) : Int)) (by omega) (lv' := [(4, .int (iZ ((d + 1 : Nat) : Int))), (6, .int (iZ (((1 + (M 2 d - 1).toNat : Nat) : Nat) : Int))), (2, .long (TL (A + adA (aZ (M 23 (3 + d))) (M 2 d - 1).toNat) (B + adB (aZ (M 23 (3 + d))) (M 2 d - 1).toNat))), (5, .int (iZ (aZ (M 23 (3 + d))))), (0, .ref (wa w 19)), (1, .ref (wa w 1))]) (by rw [hkL]; decide) rfl ?_
    refine ww_goto C 5 dX3_countLine_59 (by decide) ?_
    refine ww_sub [0, 2, 4, 5] rfl ?_
    exact kk
theorem ct_X3_countLine (w : WLD) (M : Mem) (hs : SzOk (M 2)) (h2 : Nu2 (M 23)) (hg : crG (M 23) 1 2 = 0) (hfi : M 23 3 ≠ 0 ∨ M 23 4 ≠ 0 ∨ M 23 5 ≠ 0) : CtI w yX3_countLine cX3_countLine 7 (some .int) rm_X3_countLine [.ref (wa w 19), .ref (wa w 1)] M (fun z M1 => z = difK (M 2) (keyZ (M 23) (M 2) 1) 512 ∧ M1 = M) := by
  refine CtI.of (by decide) (Nat.le_of_ble_eq_true rfl) rfl rfl ?_
  intro k hkL C RT
  have hlc := line_cnt hs h2 hg hfi
  have x0 := (ad_1 (aZ (M 23 3)) (M 2 0 - 1).toNat).2.2
  have x1 := (ad_1 (aZ (M 23 4)) (M 2 1 - 1).toNat).2.2
  have x2 := (ad_1 (aZ (M 23 5)) (M 2 2 - 1).toNat).2.2
  show WW w k 0 [(0, .ref (wa w 19)), (1, .ref (wa w 1))] [] M
  refine ww_lconst C dX3_countLine_0 tl_0.symm ?_
  refine ww_lstore_n C dX3_countLine_1 (lv' := [(2, .long (TL 0 0)), (0, .ref (wa w 19)), (1, .ref (wa w 1))]) (by rw [hkL]; decide) rfl ?_
  refine ww_iconst C dX3_countLine_2 ?_
  refine ww_istore C dX3_countLine_3 (lv' := [(4, .int (iZ ((0 : Nat) : Int))), (2, .long (TL 0 0)), (0, .ref (wa w 19)), (1, .ref (wa w 1))]) (by rw [hkL]; decide) rfl ?_
  refine cl_out C hkL hs h2 0 (by decide) 0 0 (by decide) ?_
  refine cl_out C hkL hs h2 1 (by decide) (0 + adA (aZ (M 23 3)) (M 2 0 - 1).toNat) (0 + adB (aZ (M 23 3)) (M 2 0 - 1).toNat) (by omega) ?_
  refine cl_out C hkL hs h2 2 (by decide) (0 + adA (aZ (M 23 3)) (M 2 0 - 1).toNat + adA (aZ (M 23 4)) (M 2 1 - 1).toNat) (0 + adB (aZ (M 23 3)) (M 2 0 - 1).toNat + adB (aZ (M 23 4)) (M 2 1 - 1).toNat) (by omega) ?_
  show WW w k 5 [(4, .int (iZ 3)), (2, .long (TL (0 + adA (aZ (M 23 3)) (M 2 0 - 1).toNat + adA (aZ (M 23 4)) (M 2 1 - 1).toNat + adA (aZ (M 23 5)) (M 2 2 - 1).toNat) (0 + adB (aZ (M 23 3)) (M 2 0 - 1).toNat + adB (aZ (M 23 4)) (M 2 1 - 1).toNat + adB (aZ (M 23 5)) (M 2 2 - 1).toNat))), (0, .ref (wa w 19)), (1, .ref (wa w 1))] [] M
  refine ww_iload C dX3_countLine_5 0 rfl ?_
  refine ww_iconst C dX3_countLine_7 ?_
  refine ww_icmp_ge C 62 dX3_countLine_8 (by decide) (by omega) (by omega) (fun c => ?_) (fun c => ?_)
  · refine ww_lload_n C dX3_countLine_62 1 rfl ?_
    refine ww_callS C (As := [.long (TL (0 + adA (aZ (M 23 3)) (M 2 0 - 1).toNat + adA (aZ (M 23 4)) (M 2 1 - 1).toNat + adA (aZ (M 23 5)) (M 2 2 - 1).toNat) (0 + adB (aZ (M 23 3)) (M 2 0 - 1).toNat + adB (aZ (M 23 4)) (M 2 1 - 1).toNat + adB (aZ (M 23 5)) (M 2 2 - 1).toNat))]) (ct_J13_bitCount_95d88 w M _ _ (by omega)) mf_J13_bitCount_95d88 ml_X3_111 (by decide) rfl rfl (Nat.le_of_ble_eq_true rfl) dX3_countLine_63 (fun z M1 hp => ?_)
    obtain ⟨hz, hm⟩ := hp
    exact RT _ _ _ _ dX3_countLine_66 ⟨by rw [hz, hlc], hm⟩
  · exact absurd (show (3 : Int) ≤ 3 by decide) c
