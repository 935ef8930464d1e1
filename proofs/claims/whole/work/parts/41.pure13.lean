/-! the search's state, and one candidate more -/
def SS (M : Mem) (sz st : Nat → Int) (nv b ln n : Nat) : Prop := (∃ c : Nat, bsR (accP sz st nv b ln) (btC sz b) (clC sz b) n (M 19 3) (M 19 1) (M 19 2) c ∧ (M 19 3 = 1 → M 21 = nuO b c)) ∧ (∀ q : Nat, 9 ≤ q → M 21 q = 0) ∧ (∀ q : Nat, 9 ≤ q → M 23 q = 0) ∧ Nu2 (M 23) ∧ (∀ d : Nat, -8 ≤ M 24 d ∧ M 24 d ≤ 8) ∧ R32 (M 19 1) ∧ R32 (M 19 2) ∧ (M 19 3 = 0 ∨ M 19 3 = 1)
def frS (M M1 : Mem) : Prop := ∀ h : Nat, h ≠ 19 → h ≠ 21 → h ≠ 23 → h ≠ 24 → M1 h = M h
theorem frS_rf (M : Mem) : frS M M := fun _ _ _ _ _ => rfl
theorem frS_tr {M M1 M2 : Mem} (h1 : frS M M1) (h2 : frS M1 M2) : frS M M2 := fun h a b c d => (h2 h a b c d).trans (h1 h a b c d)
def updP (M : Mem) (nv : Nat) (bt : Int) : Prop := (∀ v : Nat, v < nv → ¬ farP (M 23) (M 2) (M 4) v) ∧ ¬ metZ (M 23) (M 2) ∧ (M 19 3 = 0 ∨ bt < M 19 1 ∨ difK (M 2) (keyZ (M 23) (M 2) 1) 512 < M 19 2)
def consR (M M1 : Mem) (nv : Nat) (bt : Int) : Prop := ∃ ac : Nat → Int, (∀ d : Nat, -8 ≤ ac d ∧ ac d ≤ 8) ∧ ((updP M nv bt ∧ M1 = ups (ups (ups M 24 ac) 19 (up1 (up1 (up1 (M 19) 3 1) 1 bt) 2 (difK (M 2) (keyZ (M 23) (M 2) 1) 512))) 21 (fun j => if j < 9 then M 23 j else M 21 j)) ∨ (¬ updP M nv bt ∧ M1 = ups M 24 ac))
theorem cons_step {M M1 : Mem} {nv b ln n : Nat} {bt : Int} (h : SS M (M 2) (M 4) nv b ln n) (hrow : M 23 = nuO b n) (ha1 : n / vc b % vc b ≠ vc b / 2) (ha2 : ln = 1 → n % vc b = vc b / 2) (ha3 : ln = 2 → n % vc b ≠ vc b / 2) (hear : ∀ v : Nat, v < nv → ¬ earP (M 23) (M 2) (M 4) v) (hbt : bt = buZ (M 23) (M 2)) (hle : M 19 3 = 1 → bt ≤ M 19 1) (hc : consR M M1 nv bt) (hsz_of : SzOk (M 2)) : SS M1 (M 2) (M 4) nv b ln (n + 1) ∧ (M1 19 3 = 1 → bt ≤ M1 19 1) ∧ frS M M1 ∧ M1 23 = M 23 := by
  obtain ⟨⟨c, hb, hw⟩, h21, h23, h2, h24, hr1, hr2, hF⟩ := h
  obtain ⟨ac, hac, hc⟩ := hc
  have hbt2 : bt = btC (M 2) b n := by rw [hbt, hrow]; rfl
  have hcl2 : difK (M 2) (keyZ (M 23) (M 2) 1) 512 = clC (M 2) b n := by rw [hrow]; rfl
  have hacc : accP (M 2) (M 4) nv b ln n ↔ (∀ v : Nat, v < nv → ¬ farP (M 23) (M 2) (M 4) v) ∧ ¬ metZ (M 23) (M 2) := by
    unfold accP
    rw [← hrow]
    exact ⟨fun q => ⟨q.2.2.2.2.1, q.2.2.2.2.2⟩, fun q => ⟨ha1, ha2, ha3, hear, q.1, q.2⟩⟩
  have hdb := dif_b (M 2) (keyZ (M 23) (M 2) 1) 512
  rcases hc with ⟨hu, e⟩ | ⟨hu, e⟩
  · subst e
    refine ⟨⟨⟨n, ?_, fun _ => ?_⟩, fun q hq => ?_, h23, h2, hac, ?_, ?_, Or.inr rfl⟩, fun _ => Int.le_refl _, fun h a1 a2 a3 a4 => ?_, rfl⟩
    · show bsR _ _ _ (n + 1) 1 bt (difK (M 2) (keyZ (M 23) (M 2) 1) 512) n
      rw [hbt2, hcl2]
      refine bsR_take hb (hacc.mpr ⟨hu.1, hu.2.1⟩) ?_
      rw [← hbt2, ← hcl2]
      have := hu.2.2
      rcases hF with f | f
      · exact Or.inl f
      · have := hle f; omega
    · show (fun j => if j < 9 then M 23 j else M 21 j) = nuO b n
      rw [← hrow]
      funext j
      by_cases hj : j < 9
      · simp only [if_pos hj]
      · simp only [if_neg hj]
        rw [h21 j (by omega), h23 j (by omega)]
    · show (if q < 9 then M 23 q else M 21 q) = 0
      rw [if_neg (by omega)]
      exact h21 q hq
    · show R32 bt
      rw [hbt]
      rcases hF with f | f
      · have := buZ_b (Nu2_3 h2) hsz_of
        omega
      · have := buZ_b (Nu2_3 h2) hsz_of
        omega
    · show R32 (difK (M 2) (keyZ (M 23) (M 2) 1) 512)
      omega
    · rw [ups_n a2, ups_n a1, ups_n a4]
  · subst e
    refine ⟨⟨⟨c, ?_, hw⟩, h21, h23, h2, hac, hr1, hr2, hF⟩, hle, fun h a1 a2 a3 a4 => ?_, rfl⟩
    · refine bsR_skip hb (by omega) (fun d d1 d2 hd => ?_)
      have : d = n := by omega
      subst this
      have q := hacc.mp hd
      rw [← hbt2, ← hcl2]
      have hn : ¬ (M 19 3 = 0 ∨ bt < M 19 1 ∨ difK (M 2) (keyZ (M 23) (M 2) 1) 512 < M 19 2) := fun z => hu ⟨q.1, q.2, z⟩
      rcases hF with f | f
      · exact absurd (Or.inl f) hn
      · have := hle f
        show M 19 3 = 1 ∧ (M 19 1 < bt ∨ (M 19 1 = bt ∧ M 19 2 ≤ _))
        omega
    · rw [ups_n a4]
