/-! THE CLASS AND THE REFERENCE SIDE BY SIDE -/
def Rel (M : Mem) : Prop := M 31 = M 2 ∧ M 30 1 = M 1 3 ∧ M 32 = M 4 ∧ M 33 = M 5 ∧ M 34 = M 6 ∧ M 35 = M 7 ∧ M 36 = M 8 ∧ M 37 = M 11 ∧ M 30 8 = M 10 1 ∧ M 30 9 = M 25 0 ∧ M 38 = M 26 ∧ (∀ q : Nat, R32 (M 39 q)) ∧ (∀ j : Nat, 4096 ≤ j → M 40 j = 0) ∧ (∀ j : Nat, 1024 ≤ j → M 41 j = 0)
def LInv (M : Mem) (nv np : Nat) : Prop := CInv M nv np ∧ SInv M ∧ Rel M
def LAll (M : Mem) : Prop := ∃ nv np : Nat, LInv M nv np
theorem cinv_fr {M M1 : Mem} {nv np : Nat} (h : CInv M nv np) (hf : ∀ k : Nat, k < 30 → M1 k = M k) : CInv M1 nv np := by
  have e1 := hf 1 (by decide)
  have e2 := hf 2 (by decide)
  unfold CInv VkOk RnOk at *
  rw [e1, e2, hf 3 (by decide), hf 4 (by decide), hf 5 (by decide), hf 6 (by decide), hf 7 (by decide), hf 8 (by decide), hf 9 (by decide), hf 10 (by decide), hf 11 (by decide), hf 12 (by decide), hf 13 (by decide), hf 14 (by decide), hf 15 (by decide), hf 16 (by decide), hf 17 (by decide), hf 18 (by decide), hf 21 (by decide), hf 23 (by decide), hf 25 (by decide), hf 26 (by decide), hf 27 (by decide), hf 28 (by decide), hf 29 (by decide)]
  exact h
theorem sinv_fr {M M1 : Mem} (h : SInv M) (h19 : M1 19 = M 19) (h21 : M1 21 = M 21) (h23 : M1 23 = M 23) (h24 : M1 24 = M 24) : SInv M1 := by
  unfold SInv at *
  rw [h19, h21, h23, h24]
  exact h
theorem rel_fr {M M1 : Mem} (h : Rel M) (h1 : M1 1 3 = M 1 3) (h25 : M1 25 0 = M 25 0) (hf : ∀ k : Nat, k ≠ 1 → k ≠ 9 → k < 12 ∨ 25 < k → M1 k = M k) : Rel M1 := by
  unfold Rel at *
  rw [h1, h25, hf 31 (by decide) (by decide) (by decide), hf 2 (by decide) (by decide) (by decide), hf 30 (by decide) (by decide) (by decide), hf 32 (by decide) (by decide) (by decide), hf 4 (by decide) (by decide) (by decide), hf 33 (by decide) (by decide) (by decide), hf 5 (by decide) (by decide) (by decide), hf 34 (by decide) (by decide) (by decide), hf 6 (by decide) (by decide) (by decide), hf 35 (by decide) (by decide) (by decide), hf 7 (by decide) (by decide) (by decide), hf 36 (by decide) (by decide) (by decide), hf 8 (by decide) (by decide) (by decide), hf 37 (by decide) (by decide) (by decide), hf 11 (by decide) (by decide) (by decide), hf 10 (by decide) (by decide) (by decide), hf 38 (by decide) (by decide) (by decide), hf 26 (by decide) (by decide) (by decide), hf 39 (by decide) (by decide) (by decide), hf 40 (by decide) (by decide) (by decide), hf 41 (by decide) (by decide) (by decide)]
  exact h
theorem linv_set {M M1 : Mem} {nv np : Nat} (h : LInv M nv np) (hs : setS M M1 nv np) : LInv M1 nv np :=
  ⟨hs.1, sinv_fr h.2.1 (hs.2 19 (by decide)) (hs.2 21 (by decide)) (hs.2 23 (by decide)) (hs.2 24 (by decide)), rel_fr h.2.2 (by rw [hs.2 1 (by decide)]) (by rw [hs.2 25 (by decide)]) (fun k _ _ hk => hs.2 k (by omega))⟩
theorem linv_pln {M M1 : Mem} {nv np : Nat} (h : LInv M nv np) (hs : plnS M M1 nv np) : LInv M1 nv np :=
  ⟨hs.1, sinv_fr h.2.1 (hs.2.1 19 (by decide) (by decide)) (hs.2.1 21 (by decide) (by decide)) (hs.2.1 23 (by decide) (by decide)) (hs.2.1 24 (by decide) (by decide)), rel_fr h.2.2 (hs.2.2 3 (by decide)) (by rw [hs.2.1 25 (by decide) (by decide)]) (fun k a b _ => hs.2.1 k a b)⟩
theorem fil_R {n : Nat} {f : Nat → Int} (h : ∀ q : Nat, R32 (f q)) : ∀ q : Nat, R32 (fil n 0 f q) := fun q => by
  unfold fil
  split
  · exact ⟨by decide, by decide⟩
  · exact h q
theorem up1_R {f : Nat → Int} {k : Nat} {x : Int} (h : ∀ q : Nat, R32 (f q)) (hx : R32 x) : ∀ q : Nat, R32 (up1 f k x q) := fun q => by
  unfold up1
  split
  · exact hx
  · exact h q
theorem lq_sizes {M M1 M2 : Mem} {nv np : Nat} {a b c : Int} {z y : Int} (h : LInv M nv np) (h1 : (((1 ≤ a ∧ a ≤ 8) ∧ (1 ≤ b ∧ b ≤ 8) ∧ (1 ≤ c ∧ c ≤ 8)) ∧ z = 1 ∧ ∃ (np : Nat) (co : Nat → Int), CdOk (up1 (up1 (up1 (M 2) 0 a) 1 b) 2 c) co np ∧ M1 = ups (ups (ups (ups (ups (ups M 2 (up1 (up1 (up1 (M 2) 0 a) 1 b) 2 c)) 1 (up1 (up1 (M 1) 2 ((np : Nat) : Int)) 10 0)) 3 co) 8 (fil 2048 0 (M 8))) 12 (up1 (M 12) 3 0)) 25 (up1 (M 25) 0 0)) ∨ (¬ ((1 ≤ a ∧ a ≤ 8) ∧ (1 ≤ b ∧ b ≤ 8) ∧ (1 ≤ c ∧ c ≤ 8)) ∧ z = 0 ∧ M1 = M)) (h2 : (((1 ≤ a ∧ a ≤ 8) ∧ (1 ≤ b ∧ b ≤ 8) ∧ (1 ≤ c ∧ c ≤ 8)) ∧ y = 1 ∧ M2 = ups (ups (ups M1 31 (up1 (up1 (up1 (M1 31) 0 a) 1 b) 2 c)) 36 (fil 2048 0 (M1 36))) 30 (up1 (M1 30) 9 0)) ∨ (¬ ((1 ≤ a ∧ a ≤ 8) ∧ (1 ≤ b ∧ b ≤ 8) ∧ (1 ≤ c ∧ c ≤ 8)) ∧ y = 0 ∧ M2 = M1)) : z = y ∧ LAll M2 := by
  rcases h1 with ⟨p1, rfl, np1, co, hcd1, rfl⟩ | ⟨p1, rfl, rfl⟩
  · rcases h2 with ⟨p2, rfl, rfl⟩ | ⟨p2, -⟩
    · obtain ⟨⟨hs, hnv, hn4, hnp, hcd, hst, hac, hlf, hrt, hed, har9, hvk, hVk, hld, hnu, hf0, h11, h21, h23, hkn, hpl, hl0, hb0, hb5, hth, hrn, har26, hb25⟩, hS, hR⟩ := h
      obtain ⟨r1, r2, r3, r4, r5, r6, r7, r8, r9, r10, r11, r12, r13, r14⟩ := hR
      refine ⟨rfl, nv, np1, ⟨p1, hnv, hn4, rfl, hcd1, hst, hac, hlf, hrt, fil_R hed, har9, Or.inl rfl, fun e => absurd (show (0 : Int) = 1 from e) (by decide), hld, hnu, hf0, h11, h21, h23, Or.inl rfl, fun e => absurd (show (0 : Int) = 1 from e) (by decide), hl0, hb0, hb5, Or.inl rfl, fun e => absurd (show (0 : Int) = 1 from e) (by decide), har26, hb25⟩, hS, ⟨show up1 (up1 (up1 (M 31) 0 a) 1 b) 2 c = up1 (up1 (up1 (M 2) 0 a) 1 b) 2 c by rw [r1], r2, r3, r4, r5, r6, show fil 2048 0 (M 36) = fil 2048 0 (M 8) by rw [r7], r8, r9, rfl, r11, r12, r13, r14⟩⟩
    · exact absurd p1 p2
  · rcases h2 with ⟨p2, -⟩ | ⟨p2, rfl, rfl⟩
    · exact absurd p2 p1
    · exact ⟨rfl, nv, np, h⟩
theorem lq_clear {M M1 M2 : Mem} {nv np : Nat} (h : LInv M nv np) (h1 : M1 = ups (ups (ups M 1 (up1 (up1 (M 1) 3 0) 10 0)) 8 (fil 2048 0 (M 8))) 25 (up1 (M 25) 0 0)) (h2 : M2 = ups (ups M1 30 (up1 (up1 (M1 30) 1 0) 9 0)) 36 (fil 2048 0 (M1 36))) : LAll M2 := by
  subst h1
  subst h2
  obtain ⟨⟨hs, hnv, hn4, hnp, hcd, hst, hac, hlf, hrt, hed, har9, hvk, hVk, hld, hnu, hf0, h11, h21, h23, hkn, hpl, hl0, hb0, hb5, hth, hrn, har26, hb25⟩, hS, hR⟩ := h
  obtain ⟨r1, r2, r3, r4, r5, r6, r7, r8, r9, r10, r11, r12, r13, r14⟩ := hR
  exact ⟨0, np, ⟨hs, rfl, by decide, hnp, hcd, hst, fun v hv => absurd hv (Nat.not_lt_zero v), fun v hv => absurd hv (Nat.not_lt_zero v), fun v hv => absurd hv (Nat.not_lt_zero v), fil_R hed, har9, Or.inl rfl, fun e => absurd (show (0 : Int) = 1 from e) (by decide), fun v hv => absurd hv (Nat.not_lt_zero v), hnu, hf0, h11, h21, h23, hkn, hpl, hl0, hb0, hb5, Or.inl rfl, fun e => absurd (show (0 : Int) = 1 from e) (by decide), har26, hb25⟩, hS, ⟨r1, rfl, r3, r4, r5, r6, show fil 2048 0 (M 36) = fil 2048 0 (M 8) by rw [r7], r8, r9, rfl, r11, r12, r13, r14⟩⟩
theorem lq_fold {M M1 M2 : Mem} {nv np : Nat} {f : Int} {z y : Int} (h : LInv M nv np) (h1 : ((1 ≤ f ∧ f ≤ 8) ∧ z = 1 ∧ M1 = ups (ups (ups M 10 (up1 (M 10) 1 f)) 12 (up1 (M 12) 3 0)) 25 (up1 (M 25) 0 0)) ∨ (¬ (1 ≤ f ∧ f ≤ 8) ∧ z = 0 ∧ M1 = M)) (h2 : ((1 ≤ f ∧ f ≤ 8) ∧ y = 1 ∧ M2 = ups M1 30 (up1 (up1 (M1 30) 8 f) 9 0)) ∨ (¬ (1 ≤ f ∧ f ≤ 8) ∧ y = 0 ∧ M2 = M1)) : z = y ∧ LAll M2 := by
  rcases h1 with ⟨p1, rfl, rfl⟩ | ⟨p1, rfl, rfl⟩
  · rcases h2 with ⟨p2, rfl, rfl⟩ | ⟨p2, -⟩
    · obtain ⟨⟨hs, hnv, hn4, hnp, hcd, hst, hac, hlf, hrt, hed, har9, hvk, hVk, hld, hnu, hf0, h11, h21, h23, hkn, hpl, hl0, hb0, hb5, hth, hrn, har26, hb25⟩, hS, hR⟩ := h
      obtain ⟨r1, r2, r3, r4, r5, r6, r7, r8, r9, r10, r11, r12, r13, r14⟩ := hR
      refine ⟨rfl, nv, np, ⟨hs, hnv, hn4, hnp, hcd, hst, hac, hlf, hrt, hed, har9, hvk, hVk, hld, hnu, p1, h11, h21, h23, Or.inl rfl, fun e => absurd (show (0 : Int) = 1 from e) (by decide), hl0, hb0, hb5, Or.inl rfl, fun e => absurd (show (0 : Int) = 1 from e) (by decide), har26, hb25⟩, hS, ⟨r1, r2, r3, r4, r5, r6, r7, r8, rfl, rfl, r11, r12, r13, r14⟩⟩
    · exact absurd (p1) p2
  · rcases h2 with ⟨p2, -⟩ | ⟨p2, rfl, rfl⟩
    · exact absurd (p2) p1
    · exact ⟨rfl, nv, np, h⟩
theorem lq_edge {M M1 M2 : Mem} {nv np : Nat} {v i j l x : Int} {z y : Int} (h : LInv M nv np) (hx : R32 x) (h1 : (((0 ≤ v ∧ v < M 1 3) ∧ ((0 ≤ i ∧ i < M 2 0) ∧ (0 ≤ j ∧ j < M 2 1) ∧ (0 ≤ l ∧ l < M 2 2))) ∧ z = 1 ∧ M1 = ups (ups (ups M 8 (up1 (M 8) (512 * v + (64 * i + 8 * j + l)).toNat x)) 1 (up1 (M 1) 10 0)) 25 (up1 (M 25) 0 0)) ∨ (¬ ((0 ≤ v ∧ v < M 1 3) ∧ ((0 ≤ i ∧ i < M 2 0) ∧ (0 ≤ j ∧ j < M 2 1) ∧ (0 ≤ l ∧ l < M 2 2))) ∧ z = 0 ∧ M1 = M)) (h2 : (((0 ≤ v ∧ v < M1 30 1) ∧ ((0 ≤ i ∧ i < M1 31 0) ∧ (0 ≤ j ∧ j < M1 31 1) ∧ (0 ≤ l ∧ l < M1 31 2))) ∧ y = 1 ∧ M2 = ups (ups M1 36 (up1 (M1 36) (512 * v + (64 * i + 8 * j + l)).toNat x)) 30 (up1 (M1 30) 9 0)) ∨ (¬ ((0 ≤ v ∧ v < M1 30 1) ∧ ((0 ≤ i ∧ i < M1 31 0) ∧ (0 ≤ j ∧ j < M1 31 1) ∧ (0 ≤ l ∧ l < M1 31 2))) ∧ y = 0 ∧ M2 = M1)) : z = y ∧ LAll M2 := by
  rcases h1 with ⟨p1, rfl, rfl⟩ | ⟨p1, rfl, rfl⟩
  · rcases h2 with ⟨p2, rfl, rfl⟩ | ⟨p2, -⟩
    · obtain ⟨⟨hs, hnv, hn4, hnp, hcd, hst, hac, hlf, hrt, hed, har9, hvk, hVk, hld, hnu, hf0, h11, h21, h23, hkn, hpl, hl0, hb0, hb5, hth, hrn, har26, hb25⟩, hS, hR⟩ := h
      obtain ⟨r1, r2, r3, r4, r5, r6, r7, r8, r9, r10, r11, r12, r13, r14⟩ := hR
      refine ⟨rfl, nv, np, ⟨hs, hnv, hn4, hnp, hcd, hst, hac, hlf, hrt, up1_R hed hx, har9, Or.inl rfl, fun e => absurd (show (0 : Int) = 1 from e) (by decide), hld, hnu, hf0, h11, h21, h23, hkn, hpl, hl0, hb0, hb5, Or.inl rfl, fun e => absurd (show (0 : Int) = 1 from e) (by decide), har26, hb25⟩, hS, ⟨r1, r2, r3, r4, r5, r6, show up1 (M 36) (512 * v + (64 * i + 8 * j + l)).toNat x = up1 (M 8) (512 * v + (64 * i + 8 * j + l)).toNat x by rw [r7], r8, r9, rfl, r11, r12, r13, r14⟩⟩
    · exact absurd (by rw [← h.2.2.1, ← h.2.2.2.1] at p1; exact p1) p2
  · rcases h2 with ⟨p2, -⟩ | ⟨p2, rfl, rfl⟩
    · exact absurd (by rw [← h.2.2.1, ← h.2.2.2.1]; exact p2) p1
    · exact ⟨rfl, nv, np, h⟩
theorem lq_why {M M1 M2 : Mem} {nv np : Nat} {x : Int} {z y : Int} (h : LInv M nv np) (h1 : whyR (M 11) (M 2) (M 4) (M 10 1) nv x z ∧ setS M M1 nv np) (h2 : whyR (M1 37) (M1 31) (M1 32) (M1 30 8) nv x y ∧ M2 = M1) : z = y ∧ LAll M2 := by
  have g := linv_set h h1.2
  have e := g.2.2
  obtain ⟨hw, rfl⟩ := h2
  rw [e.1, e.2.2.1, e.2.2.2.2.2.2.2.1, e.2.2.2.2.2.2.2.2.1, (fr_rows h1.2).1, (fr_rows h1.2).2.1, (fr_rows h1.2).2.2.1, (fr_rows h1.2).2.2.2] at hw
  exact ⟨whyR_un h1.1 hw, nv, np, g⟩
theorem lq_where {M M1 M2 : Mem} {nv np : Nat} {i j l x : Int} {z y : Int} (h : LInv M nv np) (h1 : z = wheZ (M 11) (M 2) (M 10 1) i j l x ∧ setS M M1 nv np) (h2 : y = wheZ (M1 37) (M1 31) (M1 30 8) i j l x ∧ M2 = M1) : z = y ∧ LAll M2 := by
  have g := linv_set h h1.2
  have e := g.2.2
  obtain ⟨hw, rfl⟩ := h2
  rw [e.1, e.2.2.2.2.2.2.2.1, e.2.2.2.2.2.2.2.2.1, (fr_rows h1.2).1, (fr_rows h1.2).2.2.1, (fr_rows h1.2).2.2.2] at hw
  exact ⟨h1.1.trans hw.symm, nv, np, g⟩
theorem lq_needs {M M1 M2 : Mem} {nv np : Nat} {v x : Int} {z y : Int} (h : LInv M nv np) (h1 : z = nedZ (M 11) (M 2) (M 4) (M 1 3) v x ∧ M1 = M) (h2 : y = nedZ (M1 37) (M1 31) (M1 32) (M1 30 1) v x ∧ M2 = M1) : z = y ∧ LAll M2 := by
  obtain ⟨h1, rfl⟩ := h1
  obtain ⟨h2, rfl⟩ := h2
  have e := h.2.2
  rw [e.1, e.2.1, e.2.2.1, e.2.2.2.2.2.2.2.1] at h2
  exact ⟨h1.trans h2.symm, nv, np, h⟩
theorem lq_laying {M M1 M2 : Mem} {nv np : Nat} {q x : Int} {z y : Int} (h : LInv M nv np) (h1 : z = (if (0 ≤ q ∧ q ≤ 2) ∧ (0 ≤ x ∧ x ≤ 2) then M 11 (3 * q + x).toNat else -1000) ∧ M1 = M) (h2 : y = (if (0 ≤ q ∧ q ≤ 2) ∧ (0 ≤ x ∧ x ≤ 2) then M1 37 (3 * q + x).toNat else -1000) ∧ M2 = M1) : z = y ∧ LAll M2 := by
  obtain ⟨h1, rfl⟩ := h1
  obtain ⟨h2, rfl⟩ := h2
  have e := h.2.2
  rw [e.2.2.2.2.2.2.2.1] at h2
  exact ⟨h1.trans h2.symm, nv, np, h⟩
theorem lq_about {M M1 M2 : Mem} {nv np : Nat} {x : Int} {z y : Int} (h : LInv M nv np) (h1 : z = aboZ (M 1 3) (M 2 0 * M 2 1 * M 2 2) (M 25 0) (M 10 1) (M 2) x ∧ M1 = M) (h2 : y = aboZ (M1 30 1) (M1 31 0 * M1 31 1 * M1 31 2) (M1 30 9) (M1 30 8) (M1 31) x ∧ M2 = M1) : z = y ∧ LAll M2 := by
  obtain ⟨h1, rfl⟩ := h1
  obtain ⟨h2, rfl⟩ := h2
  have e := h.2.2
  rw [e.1, e.2.1, e.2.2.2.2.2.2.2.2.1, e.2.2.2.2.2.2.2.2.2.1] at h2
  exact ⟨h1.trans h2.symm, nv, np, h⟩
theorem lq_value {M M1 M2 : Mem} {nv np : Nat} {v i j l : Int} {z y : Int} (h : LInv M nv np) (h1 : z = (if M 25 0 = 1 ∧ (0 ≤ v ∧ v < M 1 3) ∧ ((0 ≤ i ∧ i < M 2 0) ∧ (0 ≤ j ∧ j < M 2 1) ∧ (0 ≤ l ∧ l < M 2 2)) then M 26 (512 * v + (64 * i + 8 * j + l)).toNat else 0) ∧ M1 = M) (h2 : y = (if M1 30 9 = 1 ∧ (0 ≤ v ∧ v < M1 30 1) ∧ ((0 ≤ i ∧ i < M1 31 0) ∧ (0 ≤ j ∧ j < M1 31 1) ∧ (0 ≤ l ∧ l < M1 31 2)) then M1 38 (512 * v + (64 * i + 8 * j + l)).toNat else 0) ∧ M2 = M1) : z = y ∧ LAll M2 := by
  obtain ⟨h1, rfl⟩ := h1
  obtain ⟨h2, rfl⟩ := h2
  have e := h.2.2
  rw [e.1, e.2.1, e.2.2.2.2.2.2.2.2.2.1, e.2.2.2.2.2.2.2.2.2.2.1] at h2
  exact ⟨h1.trans h2.symm, nv, np, h⟩
theorem lq_worked {M M1 M2 : Mem} {nv np : Nat} {b c d : Int} {z y : Int} (h : LInv M nv np) (h1 : ((M 25 0 = 0 ∧ z = -1) ∨ (M 25 0 = 1 ∧ isFst (fun p => isP (M 2) p ∧ beatZ (M 11) (M 2) (M 10 1) p = b ∧ cellZ (M 11) (M 2) (M 10 1) p = c ∧ atZ (M 11) (M 2) 2 p = d) 512 z)) ∧ M1 = M) (h2 : ((M1 30 9 = 0 ∧ y = -1) ∨ (M1 30 9 = 1 ∧ isFst (fun p => isP (M1 31) p ∧ beatZ (M1 37) (M1 31) (M1 30 8) p = b ∧ cellZ (M1 37) (M1 31) (M1 30 8) p = c ∧ atZ (M1 37) (M1 31) 2 p = d) 512 y)) ∧ M2 = M1) : z = y ∧ LAll M2 := by
  obtain ⟨h1, rfl⟩ := h1
  obtain ⟨h2, rfl⟩ := h2
  have e := h.2.2
  rw [e.1, e.2.2.2.2.2.2.2.1, e.2.2.2.2.2.2.2.2.1, e.2.2.2.2.2.2.2.2.2.1] at h2
  refine ⟨?_, nv, np, h⟩
  rcases h1 with ⟨a1, a2⟩ | ⟨a1, a2⟩ <;> rcases h2 with ⟨b1, b2⟩ | ⟨b1, b2⟩
  · omega
  · omega
  · omega
  · exact isFst_un a2 b2
