theorem pl39 {M : Mem} {nv np v p : Nat} (h : LInv M nv np) (hv : v < nv) (hp : isP (M 2) p) : plA (M 2) (M 4) (M 5) (M 6) (M 7) (M 8) nv (M 39) 512 (512 * v + p) = plA (M 2) (M 4) (M 5) (M 6) (M 7) (M 8) nv (fun _ => 0) 512 (512 * v + p) := by
  obtain ⟨⟨hs, hnv, hn4, hnp, hcd, hst, hac, hlf, hrt, hed, har9, hvk, hVk, hld, hnu, hf0, h11, h21, h23, hkn, hpl, hl0, hb0, hb5, hth, hrn, har26, hb25⟩, hS, hR⟩ := h
  exact plA_ind hs hld hst hn4 hlf hrt 512 v p hv hp (isP_lt hs hp)
theorem linv_39 {M : Mem} {nv np : Nat} {g : Nat → Int} (h : LInv M nv np) (hg : ∀ q : Nat, R32 (g q)) : LInv (ups M 39 g) nv np := by
  obtain ⟨h1, h2, r1, r2, r3, r4, r5, r6, r7, r8, r9, r10, r11, r12, r13, r14⟩ := h
  exact ⟨cinv_fr h1 (fun k hk => ups_n (by omega)), h2, r1, r2, r3, r4, r5, r6, r7, r8, r9, r10, r11, hg, r13, r14⟩
theorem rows_pln {M M1 : Mem} {nv np : Nat} (hs : plnS M M1 nv np) : M1 2 = M 2 ∧ M1 4 = M 4 ∧ M1 5 = M 5 ∧ M1 6 = M 6 ∧ M1 7 = M 7 ∧ M1 8 = M 8 ∧ M1 1 3 = M 1 3 :=
  ⟨hs.2.1 2 (by decide) (by decide), hs.2.1 4 (by decide) (by decide), hs.2.1 5 (by decide) (by decide), hs.2.1 6 (by decide) (by decide), hs.2.1 7 (by decide) (by decide), hs.2.1 8 (by decide) (by decide), hs.2.2 3 (by decide)⟩
theorem pln_rf {M : Mem} {nv np : Nat} (h : LInv M nv np) : plnS M M nv np := ⟨h.1, fun _ _ _ => rfl, fun _ _ => rfl⟩
theorem linv_bst {M M1 M2 : Mem} {nv np b ln : Nat} {z y : Int} (h : LInv M nv np) (h1 : bstR M M1 nv np b ln z) (h2 : mbsR M1 M2 nv b ln y) : z = y ∧ LAll M2 := by
  obtain ⟨r1, r2, r3, r4, r5, r6, r7, r8, r9, r10, r11, r12, r13, r14⟩ := h.2.2
  obtain ⟨h2, f1, f2, f3, f4⟩ := h2
  have low : ∀ k : Nat, k < 30 → M2 k = M1 k := fun k hk => f4 k (by omega) (by omega) (by omega) (by omega) (by omega)
  rcases h1 with ⟨p1, p2, p3, p4, p5⟩ | ⟨c, p1, p2, p3, p4, p5, p6, p7⟩
  · have f : ∀ k : Nat, k < 19 ∨ 24 < k → M1 k = M k := fun k hk => p5 k (by omega) (by omega) (by omega) (by omega)
    rcases h2 with ⟨q1, q2, q3, q4⟩ | ⟨d, q1, q2, q3, q4⟩
    · refine ⟨p2.trans q2.symm, nv, np, cinv_fr p3 low, sinv_fr p4 (low 19 (by decide)) (low 21 (by decide)) (low 23 (by decide)) (low 24 (by decide)), ?_⟩
      have g : ∀ k : Nat, k < 19 ∨ (24 < k ∧ k < 30) ∨ (30 < k ∧ k ≠ 37 ∧ k ≠ 40 ∧ k ≠ 42 ∧ k ≠ 43) → M2 k = M k := fun k hk => by rw [f4 k (by omega) (by omega) (by omega) (by omega) (by omega), f k (by omega)]
      refine ⟨?_, ?_, ?_, ?_, ?_, ?_, ?_, ?_, ?_, ?_, ?_, ?_, f3, ?_⟩
      · rw [g 31 (by decide), g 2 (by decide), r1]
      · rw [f1, f 30 (by decide), g 1 (by decide), r2]
      · rw [g 32 (by decide), g 4 (by decide), r3]
      · rw [g 33 (by decide), g 5 (by decide), r4]
      · rw [g 34 (by decide), g 6 (by decide), r5]
      · rw [g 35 (by decide), g 7 (by decide), r6]
      · rw [g 36 (by decide), g 8 (by decide), r7]
      · rw [q3, f 37 (by decide), g 11 (by decide), r8]
      · rw [f2, f 30 (by decide), g 10 (by decide), r9]
      · rw [q4, f 30 (by decide), g 25 (by decide), r10]
      · rw [g 38 (by decide), g 26 (by decide), r11]
      · rw [g 39 (by decide)]; exact r12
      · rw [g 41 (by decide)]; exact r14
    · exfalso
      rw [f 31 (by decide), f 32 (by decide), r1, r3] at q1
      exact p1 d q1.1 q1.2.1
  · have f : ∀ k : Nat, k < 11 ∨ 25 < k → M1 k = M k := p7
    rcases h2 with ⟨q1, q2, q3, q4⟩ | ⟨d, q1, q2, q3, q4⟩
    · exfalso
      rw [f 31 (by decide), f 32 (by decide), r1, r3] at q1
      exact q1 c p1.1 p1.2.1
    · rw [f 31 (by decide), f 32 (by decide), r1, r3] at q1
      have e9 := bestAt_un p1 q1
      subst e9
      rw [f 31 (by decide), f 30 (by decide), r1, r9] at q3
      have g : ∀ k : Nat, k < 11 ∨ (25 < k ∧ k < 30) ∨ (30 < k ∧ k ≠ 37 ∧ k ≠ 40 ∧ k ≠ 42 ∧ k ≠ 43) → M2 k = M k := fun k hk => by rw [f4 k (by omega) (by omega) (by omega) (by omega) (by omega), f k (by omega)]
      refine ⟨beaR_un p3 q3, nv, np, cinv_fr p4 low, sinv_fr p5 (low 19 (by decide)) (low 21 (by decide)) (low 23 (by decide)) (low 24 (by decide)), ?_⟩
      refine ⟨?_, ?_, ?_, ?_, ?_, ?_, ?_, ?_, ?_, ?_, ?_, ?_, f3, ?_⟩
      · rw [g 31 (by decide), g 2 (by decide), r1]
      · rw [f1, f 30 (by decide), g 1 (by decide), r2]
      · rw [g 32 (by decide), g 4 (by decide), r3]
      · rw [g 33 (by decide), g 5 (by decide), r4]
      · rw [g 34 (by decide), g 6 (by decide), r5]
      · rw [g 35 (by decide), g 7 (by decide), r6]
      · rw [g 36 (by decide), g 8 (by decide), r7]
      · rw [q2, low 11 (by decide), p2]
      · rw [f2, f 30 (by decide), g 10 (by decide), r9]
      · rw [q4, low 25 (by decide), p6]
      · rw [g 38 (by decide), g 26 (by decide), r11]
      · rw [g 39 (by decide)]; exact r12
      · rw [g 41 (by decide)]; exact r14
theorem lq_plain {M M1 M2 : Mem} {nv np : Nat} {v i j l : Int} {z y : Int} (h : LInv M nv np) (h1 : (((0 ≤ v ∧ v < M 1 3) ∧ ((0 ≤ i ∧ i < M 2 0) ∧ (0 ≤ j ∧ j < M 2 1) ∧ (0 ≤ l ∧ l < M 2 2))) ∧ z = plA (M 2) (M 4) (M 5) (M 6) (M 7) (M 8) nv (fun _ => 0) 512 (512 * v.toNat + (64 * i + 8 * j + l).toNat) ∧ plnS M M1 nv np) ∨ (¬ ((0 ≤ v ∧ v < M 1 3) ∧ ((0 ≤ i ∧ i < M 2 0) ∧ (0 ≤ j ∧ j < M 2 1) ∧ (0 ≤ l ∧ l < M 2 2))) ∧ z = 0 ∧ M1 = M)) (h2 : (((0 ≤ v ∧ v < M1 30 1) ∧ ((0 ≤ i ∧ i < M1 31 0) ∧ (0 ≤ j ∧ j < M1 31 1) ∧ (0 ≤ l ∧ l < M1 31 2))) ∧ y = plA (M1 31) (M1 32) (M1 33) (M1 34) (M1 35) (M1 36) nv (M1 39) 512 (512 * v + (64 * i + 8 * j + l)).toNat ∧ M2 = ups M1 39 (plA (M1 31) (M1 32) (M1 33) (M1 34) (M1 35) (M1 36) nv (M1 39) 512)) ∨ (¬ ((0 ≤ v ∧ v < M1 30 1) ∧ ((0 ≤ i ∧ i < M1 31 0) ∧ (0 ≤ j ∧ j < M1 31 1) ∧ (0 ≤ l ∧ l < M1 31 2))) ∧ y = 0 ∧ M2 = M1)) : z = y ∧ LAll M2 := by
  rcases h1 with ⟨p1, p2, p3⟩ | ⟨p1, p2, p3⟩
  · have g := linv_pln h p3
    have e := rows_pln p3
    obtain ⟨r1, r2, r3, r4, r5, r6, r7, r8, r9, r10, r11, r12, r13, r14⟩ := g.2.2
    rcases h2 with ⟨q1, q2, q3⟩ | ⟨q1, -⟩
    · subst q3
      rw [r1, r3, r4, r5, r6, r7] at q2
      have e9 : (512 * v + (64 * i + 8 * j + l)).toNat = 512 * v.toNat + (64 * i + 8 * j + l).toNat := by omega
      have hn := h.1.2.1
      refine ⟨?_, nv, np, linv_39 g (plA_R (by rw [r7]; exact g.1.2.2.2.2.2.2.2.2.2.1) r12 512)⟩
      have hq := pl39 (v := v.toNat) (p := (64 * i + 8 * j + l).toNat) g (by omega) (by rw [e.1]; have hs := h.1.1; omega)
      rw [p2, q2]
      first | (rw [hq, e.1, e.2.1, e.2.2.1, e.2.2.2.1, e.2.2.2.2.1, e.2.2.2.2.2.1]; done) | (rw [e9, hq, e.1, e.2.1, e.2.2.1, e.2.2.2.1, e.2.2.2.2.1, e.2.2.2.2.2.1]; done)
    · exfalso
      rw [r1, r2, e.1, e.2.2.2.2.2.2] at q1
      exact q1 p1
  · subst p3
    obtain ⟨r1, r2, -⟩ := h.2.2
    rcases h2 with ⟨q1, -⟩ | ⟨q1, q2, q3⟩
    · exfalso
      rw [r1, r2] at q1
      exact p1 q1
    · subst q3
      exact ⟨p2.trans q2.symm, nv, np, h⟩
theorem lq_result {M M1 M2 : Mem} {nv np : Nat} {v n x : Int} {z y : Int} (h : LInv M nv np) (h1 : (((0 ≤ v ∧ v < M 1 3) ∧ (0 ≤ x ∧ x ≤ 1)) ∧ (∃ y : Int, nthR (fun u : Nat => isP (M 2) u ∧ stepZ (M 2) (M 4) v.toNat u 1 = -1) n y ∧ z = if y = -1 then -1 else if x = 0 then y else plA (M 2) (M 4) (M 5) (M 6) (M 7) (M 8) nv (fun _ => 0) 512 (512 * v.toNat + y.toNat)) ∧ plnS M M1 nv np) ∨ (¬ ((0 ≤ v ∧ v < M 1 3) ∧ (0 ≤ x ∧ x ≤ 1)) ∧ z = -1 ∧ M1 = M)) (h2 : (((0 ≤ v ∧ v < M1 30 1) ∧ (0 ≤ x ∧ x ≤ 1)) ∧ (∃ t : Int, nthR (fun u : Nat => isP (M1 31) u ∧ stepZ (M1 31) (M1 32) v.toNat u 1 = -1) n t ∧ y = if t = -1 then -1 else if x = 0 then t else plA (M1 31) (M1 32) (M1 33) (M1 34) (M1 35) (M1 36) nv (M1 39) 512 (512 * v.toNat + t.toNat)) ∧ M2 = ups M1 39 (plA (M1 31) (M1 32) (M1 33) (M1 34) (M1 35) (M1 36) nv (M1 39) 512)) ∨ (¬ ((0 ≤ v ∧ v < M1 30 1) ∧ (0 ≤ x ∧ x ≤ 1)) ∧ y = -1 ∧ M2 = M1)) : z = y ∧ LAll M2 := by
  rcases h1 with ⟨p1, ⟨u, p2, p4⟩, p3⟩ | ⟨p1, p2, p3⟩
  · have g := linv_pln h p3
    have e := rows_pln p3
    obtain ⟨r1, r2, r3, r4, r5, r6, r7, r8, r9, r10, r11, r12, r13, r14⟩ := g.2.2
    rcases h2 with ⟨q1, ⟨t, q2, q4⟩, q3⟩ | ⟨q1, -⟩
    · subst q3
      rw [r1, r3, e.1, e.2.1] at q2
      have e9 := nthR_un p2 q2
      subst e9
      refine ⟨?_, nv, np, linv_39 g (plA_R (by rw [r7]; exact g.1.2.2.2.2.2.2.2.2.2.1) r12 512)⟩
      have hn := h.1.2.1
      have hs := h.1.1
      rw [p4, q4]
      by_cases c1 : u = -1
      · rw [if_pos c1, if_pos c1]
      · rw [if_neg c1, if_neg c1]
        by_cases c2 : x = 0
        · rw [if_pos c2, if_pos c2]
        · rw [if_neg c2, if_neg c2]
          have hu : isP (M 2) u.toNat := by
            rcases p2 with ⟨p, -, a2, a3, -⟩ | ⟨a1, -⟩
            · rw [a2]
              exact a3.1
            · exact absurd a1 c1
          have hq := pl39 (v := v.toNat) (p := u.toNat) g (by omega) (by rw [e.1]; exact hu)
          rw [r1, r3, r4, r5, r6, r7, hq, e.1, e.2.1, e.2.2.1, e.2.2.2.1, e.2.2.2.2.1, e.2.2.2.2.2.1]
    · exfalso
      rw [r2, e.2.2.2.2.2.2] at q1
      exact q1 p1
  · subst p3
    obtain ⟨r1, r2, -⟩ := h.2.2
    rcases h2 with ⟨q1, -⟩ | ⟨q1, q2, q3⟩
    · exfalso
      rw [r2] at q1
      exact p1 q1
    · subst q3
      exact ⟨p2.trans q2.symm, nv, np, h⟩
