theorem nu_up {g : Nat → Int} {a b c : Int} {k m n : Nat} (h : NuOk g) (ha : -3 ≤ a ∧ a ≤ 3) (hb : -3 ≤ b ∧ b ≤ 3) (hc : -3 ≤ c ∧ c ≤ 3) : NuOk (up1 (up1 (up1 g k a) m b) n c) := fun q hq => by
  have := h q hq
  unfold up1
  split
  · exact hc
  · split
    · exact hb
    · split
      · exact ha
      · exact this
theorem z_up {g : Nat → Int} {a b c : Int} {k m n : Nat} (h : ∀ q : Nat, 9 ≤ q → g q = 0) (hk : k < 9) (hm : m < 9) (hn : n < 9) : ∀ q : Nat, 9 ≤ q → up1 (up1 (up1 g k a) m b) n c q = 0 := fun q hq => by
  rw [up1_n (by omega), up1_n (by omega), up1_n (by omega)]
  exact h q hq
theorem st_up {g : Nat → Int} {a b c : Int} {k m n : Nat} (h : StOk g) (ha : -2 ≤ a ∧ a ≤ 2) (hb : -2 ≤ b ∧ b ≤ 2) (hc : -2 ≤ c ∧ c ≤ 2) : StOk (up1 (up1 (up1 g k a) m b) n c) := fun q hq => by
  have := h q hq
  unfold up1
  split
  · exact hc
  · split
    · exact hb
    · split
      · exact ha
      · exact this
theorem ld_up {g : Nat → Int} {a b c : Int} {nv : Nat} (h : LdOk g nv) (hp : 0 < a ∨ (a = 0 ∧ (0 < b ∨ (b = 0 ∧ 0 < c)))) : LdOk (up1 (up1 (up1 g (3 * nv) a) (3 * nv + 1) b) (3 * nv + 2) c) (nv + 1) := fun v hv => by
  by_cases e : v = nv
  · subst e
    rw [up1_s, up1_n (by omega), up1_n (by omega), up1_s, up1_n (by omega), up1_s]
    exact hp
  · have := h v (by omega)
    rw [up1_n (by omega), up1_n (by omega), up1_n (by omega), up1_n (by omega), up1_n (by omega), up1_n (by omega), up1_n (by omega), up1_n (by omega), up1_n (by omega)]
    exact this
theorem bd_up {f : Nat → Int} {nv : Nat} {lo hi x : Int} {k : Nat} (h : ∀ v : Nat, v < nv → lo ≤ f v ∧ f v ≤ hi) (hx : lo ≤ x ∧ x ≤ hi) : ∀ v : Nat, v < nv → lo ≤ up1 f k x v ∧ up1 f k x v ≤ hi := fun v hv => by
  unfold up1
  split
  · exact hx
  · exact h v hv
theorem bl_up {f : Nat → Int} {nv : Nat} {x : Int} {k : Nat} (h : ∀ v : Nat, v < nv → 0 ≤ f v ∧ f v < nv) (hx : 0 ≤ x ∧ x < nv) : ∀ v : Nat, v < nv → 0 ≤ up1 f k x v ∧ up1 f k x v < nv := fun v hv => by
  unfold up1
  split
  · exact hx
  · exact h v hv
theorem bd_s {f : Nat → Int} {nv : Nat} (h : ∀ v : Nat, v < nv → 0 ≤ f v ∧ f v ≤ 7) : ∀ v : Nat, v < nv + 1 → 0 ≤ up1 f nv 0 v ∧ up1 f nv 0 v ≤ 7 := fun v hv => by
  unfold up1
  split
  · omega
  · exact h v (by omega)
theorem bl_s {f : Nat → Int} {nv : Nat} (h : ∀ v : Nat, v < nv → 0 ≤ f v ∧ f v < nv) : ∀ v : Nat, v < nv + 1 → 0 ≤ up1 f nv 0 v ∧ up1 f nv 0 v < ((nv + 1 : Nat) : Int) := fun v hv => by
  unfold up1
  split
  · omega
  · have := h v (by omega)
    omega
theorem linv_run {M M1 : Mem} {nv np : Nat} (h : LInv M nv np) (hs : runS M M1 nv np) : CInv M1 nv np ∧ SInv M1 :=
  ⟨hs.1, sinv_fr h.2.1 (hs.2.2 19 (by decide)) (hs.2.2 21 (by decide)) (hs.2.2 23 (by decide)) (hs.2.2 24 (by decide))⟩
theorem lq_lay {M M1 M2 : Mem} {nv np : Nat} {q a b c : Int} {z y : Int} (h : LInv M nv np) (h1 : (((0 ≤ q ∧ q ≤ 2) ∧ (-3 ≤ a ∧ a ≤ 3) ∧ (-3 ≤ b ∧ b ≤ 3) ∧ (-3 ≤ c ∧ c ≤ 3) ∧ ¬ (q = 1 ∧ a = 0 ∧ b = 0 ∧ c = 0)) ∧ z = 1 ∧ M1 = ups (ups (ups M 11 (up1 (up1 (up1 (M 11) (3 * q).toNat a) (3 * q + 1).toNat b) (3 * q + 2).toNat c)) 12 (up1 (M 12) 3 0)) 25 (up1 (M 25) 0 0)) ∨ (¬ ((0 ≤ q ∧ q ≤ 2) ∧ (-3 ≤ a ∧ a ≤ 3) ∧ (-3 ≤ b ∧ b ≤ 3) ∧ (-3 ≤ c ∧ c ≤ 3) ∧ ¬ (q = 1 ∧ a = 0 ∧ b = 0 ∧ c = 0)) ∧ z = 0 ∧ M1 = M)) (h2 : (((0 ≤ q ∧ q ≤ 2) ∧ (-3 ≤ a ∧ a ≤ 3) ∧ (-3 ≤ b ∧ b ≤ 3) ∧ (-3 ≤ c ∧ c ≤ 3) ∧ ¬ (q = 1 ∧ a = 0 ∧ b = 0 ∧ c = 0)) ∧ y = 1 ∧ M2 = ups (ups M1 37 (up1 (up1 (up1 (M1 37) (3 * q).toNat a) (3 * q + 1).toNat b) (3 * q + 2).toNat c)) 30 (up1 (M1 30) 9 0)) ∨ (¬ ((0 ≤ q ∧ q ≤ 2) ∧ (-3 ≤ a ∧ a ≤ 3) ∧ (-3 ≤ b ∧ b ≤ 3) ∧ (-3 ≤ c ∧ c ≤ 3) ∧ ¬ (q = 1 ∧ a = 0 ∧ b = 0 ∧ c = 0)) ∧ y = 0 ∧ M2 = M1)) : z = y ∧ LAll M2 := by
  rcases h1 with ⟨p1, rfl, rfl⟩ | ⟨p1, rfl, rfl⟩
  · rcases h2 with ⟨p2, rfl, rfl⟩ | ⟨p2, -⟩
    · obtain ⟨⟨hs, hnv, hn4, hnp, hcd, hst, hac, hlf, hrt, hed, har9, hvk, hVk, hld, hnu, hf0, h11, h21, h23, hkn, hpl, hl0, hb0, hb5, hth, hrn, har26, hb25⟩, hS, hR⟩ := h
      obtain ⟨r1, r2, r3, r4, r5, r6, r7, r8, r9, r10, r11, r12, r13, r14⟩ := hR
      refine ⟨rfl, nv, np, ⟨hs, hnv, hn4, hnp, hcd, hst, hac, hlf, hrt, hed, har9, hvk, hVk, hld, nu_up hnu p1.2.1 p1.2.2.1 p1.2.2.2.1, hf0, z_up h11 (by omega) (by omega) (by omega), h21, h23, Or.inl rfl, fun e => absurd (show (0 : Int) = 1 from e) (by decide), hl0, hb0, hb5, Or.inl rfl, fun e => absurd (show (0 : Int) = 1 from e) (by decide), har26, hb25⟩, hS, ⟨r1, r2, r3, r4, r5, r6, r7, show up1 (up1 (up1 (M 37) (3 * q).toNat a) (3 * q + 1).toNat b) (3 * q + 2).toNat c = up1 (up1 (up1 (M 11) (3 * q).toNat a) (3 * q + 1).toNat b) (3 * q + 2).toNat c by rw [r8], r9, rfl, r11, r12, r13, r14⟩⟩
    · exact absurd (p1) p2
  · rcases h2 with ⟨p2, -⟩ | ⟨p2, rfl, rfl⟩
    · exact absurd (p2) p1
    · exact ⟨rfl, nv, np, h⟩
theorem lq_act {M M1 M2 : Mem} {nv np : Nat} {v a x t : Int} {z y : Int} (h : LInv M nv np) (h1 : (((0 ≤ v ∧ v < M 1 3) ∧ (0 ≤ a ∧ a ≤ 7) ∧ (0 ≤ x ∧ x < M 1 3) ∧ (0 ≤ t ∧ t < M 1 3)) ∧ z = 1 ∧ M1 = ups (ups (ups (ups (ups M 5 (up1 (M 5) v.toNat a)) 6 (up1 (M 6) v.toNat x)) 7 (up1 (M 7) v.toNat t)) 1 (up1 (M 1) 10 0)) 25 (up1 (M 25) 0 0)) ∨ (¬ ((0 ≤ v ∧ v < M 1 3) ∧ (0 ≤ a ∧ a ≤ 7) ∧ (0 ≤ x ∧ x < M 1 3) ∧ (0 ≤ t ∧ t < M 1 3)) ∧ z = 0 ∧ M1 = M)) (h2 : (((0 ≤ v ∧ v < M1 30 1) ∧ (0 ≤ a ∧ a ≤ 7) ∧ (0 ≤ x ∧ x < M1 30 1) ∧ (0 ≤ t ∧ t < M1 30 1)) ∧ y = 1 ∧ M2 = ups (ups (ups (ups M1 33 (up1 (M1 33) v.toNat a)) 34 (up1 (M1 34) v.toNat x)) 35 (up1 (M1 35) v.toNat t)) 30 (up1 (M1 30) 9 0)) ∨ (¬ ((0 ≤ v ∧ v < M1 30 1) ∧ (0 ≤ a ∧ a ≤ 7) ∧ (0 ≤ x ∧ x < M1 30 1) ∧ (0 ≤ t ∧ t < M1 30 1)) ∧ y = 0 ∧ M2 = M1)) : z = y ∧ LAll M2 := by
  rcases h1 with ⟨p1, rfl, rfl⟩ | ⟨p1, rfl, rfl⟩
  · rcases h2 with ⟨p2, rfl, rfl⟩ | ⟨p2, -⟩
    · have e3 := h.1.2.1
      rw [e3] at p1
      obtain ⟨⟨hs, hnv, hn4, hnp, hcd, hst, hac, hlf, hrt, hed, har9, hvk, hVk, hld, hnu, hf0, h11, h21, h23, hkn, hpl, hl0, hb0, hb5, hth, hrn, har26, hb25⟩, hS, hR⟩ := h
      obtain ⟨r1, r2, r3, r4, r5, r6, r7, r8, r9, r10, r11, r12, r13, r14⟩ := hR
      refine ⟨rfl, nv, np, ⟨hs, hnv, hn4, hnp, hcd, hst, bd_up hac p1.2.1, bl_up hlf p1.2.2.1, bl_up hrt p1.2.2.2, hed, har9, Or.inl rfl, fun e => absurd (show (0 : Int) = 1 from e) (by decide), hld, hnu, hf0, h11, h21, h23, hkn, hpl, hl0, hb0, hb5, Or.inl rfl, fun e => absurd (show (0 : Int) = 1 from e) (by decide), har26, hb25⟩, hS, ⟨r1, r2, r3, show up1 (M 33) v.toNat a = up1 (M 5) v.toNat a by rw [r4], show up1 (M 34) v.toNat x = up1 (M 6) v.toNat x by rw [r5], show up1 (M 35) v.toNat t = up1 (M 7) v.toNat t by rw [r6], r7, r8, r9, rfl, r11, r12, r13, r14⟩⟩
    · exact absurd (by rw [← h.2.2.2.1] at p1; exact p1) p2
  · rcases h2 with ⟨p2, -⟩ | ⟨p2, rfl, rfl⟩
    · exact absurd (by rw [← h.2.2.2.1]; exact p2) p1
    · exact ⟨rfl, nv, np, h⟩
theorem lq_variable {M M1 M2 : Mem} {nv np : Nat} {a b c : Int} {z y : Int} (h : LInv M nv np) (h1 : ((((-2 ≤ a ∧ a ≤ 2) ∧ (-2 ≤ b ∧ b ≤ 2) ∧ (-2 ≤ c ∧ c ≤ 2) ∧ (0 < a ∨ (a = 0 ∧ (0 < b ∨ (b = 0 ∧ 0 < c))))) ∧ nv < 4) ∧ z = (nv : Int) ∧ M1 = ups (ups (ups (ups (ups (ups M 25 (up1 (M 25) 0 0)) 1 (up1 (up1 (M 1) 3 ((nv + 1 : Nat) : Int)) 10 0)) 4 (up1 (up1 (up1 (M 4) (3 * nv) a) (3 * nv + 1) b) (3 * nv + 2) c)) 5 (up1 (M 5) nv 0)) 6 (up1 (M 6) nv 0)) 7 (up1 (M 7) nv 0)) ∨ (¬ (((-2 ≤ a ∧ a ≤ 2) ∧ (-2 ≤ b ∧ b ≤ 2) ∧ (-2 ≤ c ∧ c ≤ 2) ∧ (0 < a ∨ (a = 0 ∧ (0 < b ∨ (b = 0 ∧ 0 < c))))) ∧ nv < 4) ∧ z = -1 ∧ M1 = M)) (h2 : ((((-2 ≤ a ∧ a ≤ 2) ∧ (-2 ≤ b ∧ b ≤ 2) ∧ (-2 ≤ c ∧ c ≤ 2) ∧ (0 < a ∨ (a = 0 ∧ (0 < b ∨ (b = 0 ∧ 0 < c))))) ∧ nv < 4) ∧ y = (nv : Int) ∧ M2 = ups (ups (ups (ups (ups M1 32 (up1 (up1 (up1 (M1 32) (3 * nv) a) (3 * nv + 1) b) (3 * nv + 2) c)) 33 (up1 (M1 33) nv 0)) 34 (up1 (M1 34) nv 0)) 35 (up1 (M1 35) nv 0)) 30 (up1 (up1 (M1 30) 1 ((nv + 1 : Nat) : Int)) 9 0)) ∨ (¬ (((-2 ≤ a ∧ a ≤ 2) ∧ (-2 ≤ b ∧ b ≤ 2) ∧ (-2 ≤ c ∧ c ≤ 2) ∧ (0 < a ∨ (a = 0 ∧ (0 < b ∨ (b = 0 ∧ 0 < c))))) ∧ nv < 4) ∧ y = -1 ∧ M2 = M1)) : z = y ∧ LAll M2 := by
  rcases h1 with ⟨p1, rfl, rfl⟩ | ⟨p1, rfl, rfl⟩
  · rcases h2 with ⟨p2, rfl, rfl⟩ | ⟨p2, -⟩
    · obtain ⟨⟨hs, hnv, hn4, hnp, hcd, hst, hac, hlf, hrt, hed, har9, hvk, hVk, hld, hnu, hf0, h11, h21, h23, hkn, hpl, hl0, hb0, hb5, hth, hrn, har26, hb25⟩, hS, hR⟩ := h
      obtain ⟨r1, r2, r3, r4, r5, r6, r7, r8, r9, r10, r11, r12, r13, r14⟩ := hR
      refine ⟨rfl, nv + 1, np, ⟨hs, rfl, p1.2, hnp, hcd, st_up hst p1.1.1 p1.1.2.1 p1.1.2.2.1, bd_s hac, bl_s hlf, bl_s hrt, hed, har9, Or.inl rfl, fun e => absurd (show (0 : Int) = 1 from e) (by decide), ld_up hld p1.1.2.2.2, hnu, hf0, h11, h21, h23, hkn, hpl, hl0, hb0, hb5, Or.inl rfl, fun e => absurd (show (0 : Int) = 1 from e) (by decide), har26, hb25⟩, hS, ⟨r1, rfl, show up1 (up1 (up1 (M 32) (3 * nv) a) (3 * nv + 1) b) (3 * nv + 2) c = up1 (up1 (up1 (M 4) (3 * nv) a) (3 * nv + 1) b) (3 * nv + 2) c by rw [r3], show up1 (M 33) nv 0 = up1 (M 5) nv 0 by rw [r4], show up1 (M 34) nv 0 = up1 (M 6) nv 0 by rw [r5], show up1 (M 35) nv 0 = up1 (M 7) nv 0 by rw [r6], r7, r8, r9, rfl, r11, r12, r13, r14⟩⟩
    · exact absurd p1 p2
  · rcases h2 with ⟨p2, -⟩ | ⟨p2, rfl, rfl⟩
    · exact absurd p2 p1
    · exact ⟨rfl, nv, np, h⟩
theorem lq_laid {M M1 M2 : Mem} {nv np : Nat} {x : Int} {z y : Int} (h : LInv M nv np) (h1 : lddR (M 11) (M 2) (M 10 1) x z ∧ setS M M1 nv np) (h2 : lddR (M1 37) (M1 31) (M1 30 8) x y ∧ ∃ ic ia : Nat → Int, (∀ j : Nat, 4096 ≤ j → ic j = 0) ∧ (∀ j : Nat, 1024 ≤ j → ia j = 0) ∧ M2 = ups (ups M1 40 ic) 41 ia) : z = y ∧ LAll M2 := by
  have g := linv_set h h1.2
  have e := g.2.2
  obtain ⟨hw, ic, ia, hic, hia, rfl⟩ := h2
  rw [e.1, e.2.2.2.2.2.2.2.1, e.2.2.2.2.2.2.2.2.1, (fr_rows h1.2).1, (fr_rows h1.2).2.2.1, (fr_rows h1.2).2.2.2] at hw
  obtain ⟨r1, r2, r3, r4, r5, r6, r7, r8, r9, r10, r11, r12, r13, r14⟩ := e
  exact ⟨lddR_un h1.1 hw, nv, np, cinv_fr g.1 (fun k hk => by rw [ups_n (by omega), ups_n (by omega)]), g.2.1, ⟨r1, r2, r3, r4, r5, r6, r7, r8, r9, r10, r11, r12, hic, hia⟩⟩
theorem lq_held {M M1 M2 : Mem} {nv np : Nat} {b : Int} {z y : Int} (h : LInv M nv np) (h1 : ((M 25 0 = 0 ∧ z = -1) ∨ (M 25 0 = 1 ∧ ∃ y : Int, beaR (M 2) (beatZ (M 11) (M 2) (M 10 1)) 512 y ∧ ((¬ (0 ≤ b ∧ b < y) ∧ z = -1) ∨ ((0 ≤ b ∧ b < y) ∧ z = hsu (M 2) (M 4) (beatZ (M 11) (M 2) (M 10 1)) b nv)))) ∧ M1 = M) (h2 : ((M1 30 9 = 0 ∧ y = -1) ∨ (M1 30 9 = 1 ∧ ∃ t : Int, beaR (M1 31) (beatZ (M1 37) (M1 31) (M1 30 8)) 512 t ∧ ((¬ (0 ≤ b ∧ b < t) ∧ y = -1) ∨ ((0 ≤ b ∧ b < t) ∧ y = hsu (M1 31) (M1 32) (beatZ (M1 37) (M1 31) (M1 30 8)) b nv)))) ∧ M2 = M1) : z = y ∧ LAll M2 := by
  obtain ⟨h1, rfl⟩ := h1
  obtain ⟨h2, rfl⟩ := h2
  have e := h.2.2
  rw [e.1, e.2.2.1, e.2.2.2.2.2.2.2.1, e.2.2.2.2.2.2.2.2.1, e.2.2.2.2.2.2.2.2.2.1] at h2
  refine ⟨?_, nv, np, h⟩
  rcases h1 with ⟨a1, a2⟩ | ⟨a1, t, a2, a3⟩ <;> rcases h2 with ⟨b1, b2⟩ | ⟨b1, u, b2, b3⟩
  · omega
  · omega
  · omega
  · have e9 := beaR_un a2 b2
    subst e9
    rcases a3 with ⟨a3, a4⟩ | ⟨a3, a4⟩ <;> rcases b3 with ⟨b3, b4⟩ | ⟨b3, b4⟩
    · omega
    · exact absurd b3 a3
    · exact absurd a3 b3
    · exact a4.trans b4.symm
theorem lq_run {M M1 M2 : Mem} {nv np : Nat} {z y : Int} (h : LInv M nv np) (h1 : (rigP (M 11) (M 2) (M 4) nv ∧ z = M 2 0 * M 2 1 * M 2 2 ∧ ∃ bt : Nat, beaR (M 2) (beatZ (M 11) (M 2) (M 10 1)) 512 (bt : Int) ∧ M1 26 = outB (M 2) (M 4) (M 5) (M 6) (M 7) (M 8) (beatZ (M 11) (M 2) (M 10 1)) nv (M 26) bt ∧ runS M M1 nv np) ∨ (¬ rigP (M 11) (M 2) (M 4) nv ∧ z = -1 ∧ setS M M1 nv np)) (h2 : (rigP (M1 37) (M1 31) (M1 32) nv ∧ y = M1 31 0 * M1 31 1 * M1 31 2 ∧ ∃ bt : Nat, beaR (M1 31) (beatZ (M1 37) (M1 31) (M1 30 8)) 512 (bt : Int) ∧ M2 = ups (ups M1 38 (outB (M1 31) (M1 32) (M1 33) (M1 34) (M1 35) (M1 36) (beatZ (M1 37) (M1 31) (M1 30 8)) nv (M1 38) bt)) 30 (up1 (M1 30) 9 1)) ∨ (¬ rigP (M1 37) (M1 31) (M1 32) nv ∧ y = -1 ∧ M2 = M1)) : z = y ∧ LAll M2 := by
  rcases h1 with ⟨p1, p2, bt, p3, p4, p5⟩ | ⟨p1, p2, p3⟩
  · have g := linv_run h p5
    have f := p5.2.2
    have e := h.2.2
    rcases h2 with ⟨q1, q2, bu, q3, q4⟩ | ⟨q1, -⟩
    · rw [f 37 (by decide), f 31 (by decide), f 30 (by decide), e.1, e.2.2.2.2.2.2.2.1, e.2.2.2.2.2.2.2.2.1] at q3
      rw [f 31 (by decide), e.1] at q2
      have e9 : bt = bu := by
        have := beaR_un p3 q3
        omega
      subst e9
      subst q4
      have hth := p5.2.1
      refine ⟨p2.trans q2.symm, nv, np, cinv_fr g.1 (fun k hk => by rw [ups_n (by omega), ups_n (by omega)]), g.2, ?_⟩
      obtain ⟨r1, r2, r3, r4, r5, r6, r7, r8, r9, r10, r11, r12, r13, r14⟩ := e
      refine ⟨?_, ?_, ?_, ?_, ?_, ?_, ?_, ?_, ?_, ?_, ?_, ?_, ?_, ?_⟩
      · show M1 31 = M1 2
        rw [f 31 (by decide), f 2 (by decide), r1]
      · show M1 30 1 = M1 1 3
        rw [f 30 (by decide), f 1 (by decide), r2]
      · show M1 32 = M1 4
        rw [f 32 (by decide), f 4 (by decide), r3]
      · show M1 33 = M1 5
        rw [f 33 (by decide), f 5 (by decide), r4]
      · show M1 34 = M1 6
        rw [f 34 (by decide), f 6 (by decide), r5]
      · show M1 35 = M1 7
        rw [f 35 (by decide), f 7 (by decide), r6]
      · show M1 36 = M1 8
        rw [f 36 (by decide), f 8 (by decide), r7]
      · show M1 37 = M1 11
        rw [f 37 (by decide), f 11 (by decide), r8]
      · show M1 30 8 = M1 10 1
        rw [f 30 (by decide), f 10 (by decide), r9]
      · show (1 : Int) = M1 25 0
        exact hth.symm
      · show outB (M1 31) (M1 32) (M1 33) (M1 34) (M1 35) (M1 36) (beatZ (M1 37) (M1 31) (M1 30 8)) nv (M1 38) bt = M1 26
        rw [p4, f 31 (by decide), f 32 (by decide), f 33 (by decide), f 34 (by decide), f 35 (by decide), f 36 (by decide), f 37 (by decide), f 30 (by decide), f 38 (by decide), r1, r3, r4, r5, r6, r7, r8, r9, r11]
      · show ∀ q : Nat, R32 (M1 39 q)
        rw [f 39 (by decide)]; exact r12
      · show ∀ j : Nat, 4096 ≤ j → M1 40 j = 0
        rw [f 40 (by decide)]; exact r13
      · show ∀ j : Nat, 1024 ≤ j → M1 41 j = 0
        rw [f 41 (by decide)]; exact r14
    · exfalso
      rw [f 37 (by decide), f 31 (by decide), f 32 (by decide), e.1, e.2.2.1, e.2.2.2.2.2.2.2.1] at q1
      exact q1 p1
  · have g := linv_set h p3
    have f := p3.2
    have e := h.2.2
    rcases h2 with ⟨q1, -⟩ | ⟨q1, q2, q3⟩
    · exfalso
      rw [f 37 (by decide), f 31 (by decide), f 32 (by decide), e.1, e.2.2.1, e.2.2.2.2.2.2.2.1] at q1
      exact p1 q1
    · subst q3
      exact ⟨p2.trans q2.symm, nv, np, g⟩
