/-! best, of the class -/
theorem inv_frS {M M1 : Mem} {nv np : Nat} (hI : CInv M nv np) (hf : frS M M1) (hS : SInv M1) : CInv M1 nv np := by
  have r : ∀ h : Nat, h < 19 ∨ 24 < h → M1 h = M h := fun h hh => hf h (by omega) (by omega) (by omega) (by omega)
  have r1 := r 1 (by omega)
  have r2 := r 2 (by omega)
  have r3 := r 3 (by omega)
  have r4 := r 4 (by omega)
  have r5 := r 5 (by omega)
  have r6 := r 6 (by omega)
  have r7 := r 7 (by omega)
  have r8 := r 8 (by omega)
  have r9 := r 9 (by omega)
  have r10 := r 10 (by omega)
  have r11 := r 11 (by omega)
  have r12 := r 12 (by omega)
  have r13 := r 13 (by omega)
  have r14 := r 14 (by omega)
  have r15 := r 15 (by omega)
  have r16 := r 16 (by omega)
  have r17 := r 17 (by omega)
  have r18 := r 18 (by omega)
  have r25 := r 25 (by omega)
  have r26 := r 26 (by omega)
  have r27 := r 27 (by omega)
  have r28 := r 28 (by omega)
  have r29 := r 29 (by omega)
  obtain ⟨hs, hnv, hn4, hnp, hcd, hst, hac, hlf, hrt, hed, har9, hvk, hVk, hld, hnu, hf0, h11, h21, h23, hkn, hpl, hl0, hb0, hb5, hth, hrn, har26, hb25⟩ := hI
  unfold CInv VkOk RnOk
  unfold VkOk at hVk
  unfold RnOk at hrn
  rw [r1, r2, r3, r4, r5, r6, r7, r8, r9, r10, r11, r12, r13, r14, r15, r16, r17, r18, r25, r26, r27, r28, r29]
  exact ⟨hs, hnv, hn4, hnp, hcd, hst, hac, hlf, hrt, hed, har9, hvk, hVk, hld, hnu, hf0, h11, hS.1, hS.2.1, hkn, hpl, hl0, hb0, hb5, hth, hrn, har26, hb25⟩
theorem inv_11 {M : Mem} {nv np : Nat} {g : Nat → Int} (hI : CInv M nv np) (hg : NuOk g) (h9 : ∀ q : Nat, 9 ≤ q → g q = 0) : CInv (ups (ups (ups M 11 g) 12 (up1 (M 12) 3 0)) 25 (up1 (M 25) 0 0)) nv np := by
  obtain ⟨hs, hnv, hn4, hnp, hcd, hst, hac, hlf, hrt, hed, har9, hvk, hVk, hld, hnu, hf0, h11, h21, h23, hkn, hpl, hl0, hb0, hb5, hth, hrn, har26, hb25⟩ := hI
  exact ⟨hs, hnv, hn4, hnp, hcd, hst, hac, hlf, hrt, hed, har9, hvk, hVk, hld, hg, hf0, h9, h21, h23, Or.inl rfl, fun e => absurd (show (0 : Int) = 1 from e) (by decide), hl0, hb0, hb5, Or.inl rfl, fun e => absurd (show (0 : Int) = 1 from e) (by decide), har26, hb25⟩
def bstR (M M1 : Mem) (nv np b ln : Nat) (z : Int) : Prop := ((∀ d : Nat, d < ix b (vc b) 0 0 → ¬ accP (M 2) (M 4) nv b ln d) ∧ z = -1 ∧ CInv M1 nv np ∧ SInv M1 ∧ frS M M1) ∨ ∃ c : Nat, bestAt (accP (M 2) (M 4) nv b ln) (btC (M 2) b) (clC (M 2) b) (ix b (vc b) 0 0) c ∧ M1 11 = nuO b c ∧ beaR (M 2) (beatZ (nuO b c) (M 2) (M 10 1)) 512 z ∧ CInv M1 nv np ∧ SInv M1 ∧ M1 25 0 = 0 ∧ ∀ h : Nat, h < 11 ∨ 25 < h → M1 h = M h
theorem bst_no {M M0 : Mem} {nv np b ln : Nat} (hI : CInv M nv np) (hss : SS M0 (M 2) (M 4) nv b ln (ix b (vc b) 0 0)) (hfr : frS M M0) (hz : M0 19 3 = 0) : bstR M M0 nv np b ln (-1) := by
  obtain ⟨⟨c, hb, -⟩, -⟩ := id hss
  refine Or.inl ⟨?_, rfl, inv_frS hI hfr (ss_inv hss), ss_inv hss, hfr⟩
  rcases hb with ⟨-, h⟩ | ⟨h, -⟩
  · exact h
  · omega
theorem nuO_2 {b c : Nat} (hb : b = 1 ∨ b = 2) (hc : c < ix b (vc b) 0 0) : Nu2 (nuO b c) := by
  unfold nuO
  unfold ix at hc
  refine nuC_2 hb ?_ ?_ ?_ <;> rcases vc_v hb with e | e <;> rw [e] at hc ⊢ <;> omega
theorem bst_inv {M M0 : Mem} {nv np b ln : Nat} (hb : b = 1 ∨ b = 2) (hI : CInv M nv np) (hss : SS M0 (M 2) (M 4) nv b ln (ix b (vc b) 0 0)) (hfr : frS M M0) (hz : M0 19 3 = 1) : CInv (ups (ups (ups M0 11 (fun j => if j < 9 then M0 21 j else M0 11 j)) 12 (up1 (M0 12) 3 0)) 25 (up1 (M0 25) 0 0)) nv np := by
  have hI0 := inv_frS hI hfr (ss_inv hss)
  obtain ⟨⟨c, hbs, hw⟩, h21, -⟩ := id hss
  have hw := hw hz
  rcases hbs with ⟨h, -⟩ | ⟨-, h, -⟩
  · omega
  · have h2 := nuO_2 hb h.1
    refine inv_11 hI0 (fun q hq => ?_) (fun q hq => ?_)
    · simp only [if_pos hq]
      rw [hw]
      exact Nu2_3 h2 q hq
    · simp only [if_neg (show ¬ q < 9 by omega)]
      obtain ⟨hs, hnv, hn4, hnp, hcd, hst, hac, hlf, hrt, hed, har9, hvk, hVk, hld, hnu, hf0, h11, -⟩ := hI0
      exact h11 q hq
theorem bst_yes {M M0 M1 : Mem} {nv np b ln : Nat} (hb : b = 1 ∨ b = 2) (hI : CInv M nv np) (hss : SS M0 (M 2) (M 4) nv b ln (ix b (vc b) 0 0)) (hfr : frS M M0) (hz : M0 19 3 = 1) (hse : setS (ups (ups (ups M0 11 (fun j => if j < 9 then M0 21 j else M0 11 j)) 12 (up1 (M0 12) 3 0)) 25 (up1 (M0 25) 0 0)) M1 nv np) (hk : M1 12 3 = 1) : bstR M M1 nv np b ln (M1 12 4) := by
  have hI0 := inv_frS hI hfr (ss_inv hss)
  obtain ⟨⟨c, hbs, hw⟩, h21, h23, h2, h24, hr1, hr2, hF⟩ := id hss
  have hw := hw hz
  rcases hbs with ⟨h, -⟩ | ⟨-, h, -⟩
  · omega
  · have hrow : (fun j => if j < 9 then M0 21 j else M0 11 j) = nuO b c := by
      obtain ⟨hs, hnv, hn4, hnp, hcd, hst, hac, hlf, hrt, hed, har9, hvk, hVk, hld, hnu, hf0, h11, -⟩ := hI0
      funext j
      by_cases hj : j < 9
      · simp only [if_pos hj]; rw [hw]
      · simp only [if_neg hj]
        rw [h11 j (by omega), ← hw, h21 j (by omega)]
    have r : ∀ j : Nat, j < 12 ∨ 18 < j → M1 j = ups (ups (ups M0 11 (fun j => if j < 9 then M0 21 j else M0 11 j)) 12 (up1 (M0 12) 3 0)) 25 (up1 (M0 25) 0 0) j := hse.2
    have r11 : M1 11 = nuO b c := by rw [r 11 (by omega)]; exact hrow
    have r2 : M1 2 = M 2 := by rw [r 2 (by omega)]; exact hfr 2 (by omega) (by omega) (by omega) (by omega)
    have r10 : M1 10 = M 10 := by rw [r 10 (by omega)]; exact hfr 10 (by omega) (by omega) (by omega) (by omega)
    have r19 : M1 19 = M0 19 := r 19 (by omega)
    have q21 : M1 21 = M0 21 := r 21 (by omega)
    have q23 : M1 23 = M0 23 := r 23 (by omega)
    have q24 : M1 24 = M0 24 := r 24 (by omega)
    refine Or.inr ⟨c, h, r11, ?_, hse.1, ?_, ?_, fun j hj => ?_⟩
    · obtain ⟨hs, hnv, hn4, hnp, hcd, hst, hac, hlf, hrt, hed, har9, hvk, hVk, hld, hnu, hf0, h11, g21, g23, hkn, hpl, -⟩ := hse.1
      have := (hpl hk).2.2.1
      rw [r11, r2, r10] at this
      exact this
    · unfold SInv
      rw [r19, q21, q23, q24]
      exact ⟨h21, h23, h2, h24, hr1, hr2⟩
    · rw [r 25 (by omega)]; rfl
    · rw [r j (by omega), ups_n (by omega), ups_n (by omega), ups_n (by omega)]
      exact hfr j (by omega) (by omega) (by omega) (by omega)
