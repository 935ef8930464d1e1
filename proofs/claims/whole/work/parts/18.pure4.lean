/-! places: cells, chains, meetings -/
def keyZ (nu sz : Nat → Int) (f : Int) (p : Nat) : Int := 64 * cellZ nu sz f p + atZ nu sz 2 p
theorem keyZ_b {nu sz : Nat → Int} {f : Int} {p : Nat} (hn : NuOk nu) (hs : SzOk sz) (h1 : 1 ≤ f) (hp : isP sz p) : 0 ≤ keyZ nu sz f p ∧ keyZ nu sz f p < 4096 := by
  unfold keyZ
  have a := cellZ_b hn hs h1 hp
  have b := atZ_b (h := 2) hn hs (by omega) hp
  omega
def LayOk (nu sz : Nat → Int) (f : Int) (be ce se : Nat → Int) : Prop := ∀ p : Nat, isP sz p → be p = beatZ nu sz f p ∧ ce p = cellZ nu sz f p ∧ se p = atZ nu sz 2 p
/-- 1 + the last point below b with this key, 0 if there is none -/
def lastR (sz K : Nat → Int) (kk : Int) (b : Nat) (z : Int) : Prop := (z = 0 ∧ ∀ q : Nat, q < b → isP sz q → K q ≠ kk) ∨ ∃ q : Nat, q < b ∧ z = (q : Int) + 1 ∧ isP sz q ∧ K q = kk ∧ ∀ r : Nat, q < r → r < b → isP sz r → K r ≠ kk
theorem lastR_b {sz K : Nat → Int} {kk z : Int} {b : Nat} (h : lastR sz K kk b z) : 0 ≤ z ∧ z ≤ b := by
  rcases h with ⟨e, -⟩ | ⟨q, a, e, -⟩ <;> omega
theorem lastR_skip {sz K : Nat → Int} {kk z : Int} {a b : Nat} (h : lastR sz K kk a z) (hab : a ≤ b) (hno : ∀ p : Nat, a ≤ p → p < b → isP sz p → K p ≠ kk) : lastR sz K kk b z := by
  rcases h with ⟨e, h⟩ | ⟨q, h1, h2, h3, h4, h5⟩
  · refine Or.inl ⟨e, fun q hq hp => ?_⟩
    rcases Nat.lt_or_ge q a with r | r
    · exact h q r hp
    · exact hno q r hq hp
  · refine Or.inr ⟨q, by omega, h2, h3, h4, fun r hr1 hr2 hp => ?_⟩
    rcases Nat.lt_or_ge r a with s | s
    · exact h5 r hr1 s hp
    · exact hno r s hr2 hp
theorem lastR_self {sz K : Nat → Int} {p : Nat} (hp : isP sz p) : lastR sz K (K p) (p + 1) ((p : Int) + 1) := Or.inr ⟨p, by omega, rfl, hp, rfl, fun r h1 h2 => by omega⟩
def AhOk (sz K ah : Nat → Int) : Prop := ∀ p : Nat, isP sz p → lastR sz K (K p) p (ah p)
/-- the number of different keys of the points below b -/
noncomputable def difK (sz K : Nat → Int) (b : Nat) : Int := cnt (fun p => isP sz p ∧ ∀ q : Nat, q < p → isP sz q → K q ≠ K p) b
theorem lastR_0 {sz K : Nat → Int} {kk : Int} {b : Nat} {z : Int} (h : lastR sz K kk b z) : z = 0 ↔ ∀ q : Nat, q < b → isP sz q → K q ≠ kk := by
  rcases h with ⟨e, h⟩ | ⟨q, h1, h2, h3, h4, h5⟩
  · exact ⟨fun _ => h, fun _ => e⟩
  · exact ⟨fun e => by omega, fun e => absurd h4 (e q h1 h3)⟩
/-- the greatest of the beats of the points below b, and 1; 0 if there is none -/
def beaR (sz be : Nat → Int) (b : Nat) (z : Int) : Prop := (∀ p : Nat, p < b → isP sz p → be p + 1 ≤ z) ∧ ((z = 0 ∧ ∀ p : Nat, p < b → ¬ isP sz p) ∨ ∃ p : Nat, p < b ∧ isP sz p ∧ be p + 1 = z)
/-- the least point below b that has one ahead of it with its beat and key, and that one -/
def mtP (sz K be : Nat → Int) (q p : Nat) : Prop := q < p ∧ isP sz q ∧ isP sz p ∧ K q = K p ∧ be q = be p
def metR (sz K be : Nat → Int) (b : Nat) (la ea : Int) : Prop := (la = -1 ∧ ea = -1 ∧ ∀ p q : Nat, p < b → ¬ mtP sz K be q p) ∨ ∃ p q : Nat, la = (p : Int) ∧ ea = (q : Int) ∧ p < b ∧ mtP sz K be q p ∧ ∀ r s : Nat, r < p → ¬ mtP sz K be s r
theorem metR_un {sz K be : Nat → Int} {b : Nat} {la ea la' ea' : Int} (h1 : metR sz K be b la ea) (h2 : metR sz K be b la' ea') : la = la' ∧ ea = ea' := by
  rcases h1 with ⟨a1, a2, a3⟩ | ⟨p, q, a1, a2, a3, a4, a5⟩ <;> rcases h2 with ⟨b1, b2, b3⟩ | ⟨r, s, b1, b2, b3, b4, b5⟩
  · omega
  · exact absurd b4 (a3 r s b3)
  · exact absurd a4 (b3 p q a3)
  · have hpr : p = r := by
      rcases Nat.lt_trichotomy p r with c | c | c
      · exact absurd a4 (b5 p q c)
      · exact c
      · exact absurd b4 (a5 r s c)
    subst hpr
    have hqs : q = s := by
      rcases Nat.lt_trichotomy q s with c | c | c
      · exact absurd ⟨c, a4.2.1, b4.2.1, a4.2.2.2.1.trans b4.2.2.2.1.symm, a4.2.2.2.2.trans b4.2.2.2.2.symm⟩ (a5 s q b4.1)
      · exact c
      · exact absurd ⟨c, b4.2.1, a4.2.1, b4.2.2.2.1.trans a4.2.2.2.1.symm, b4.2.2.2.2.trans a4.2.2.2.2.symm⟩ (a5 q s a4.1)
    omega
def PlOk (nu sz : Nat → Int) (f : Int) (be ce se ah : Nat → Int) (beats cells la ea : Int) : Prop :=
  LayOk nu sz f be ce se ∧ AhOk sz (keyZ nu sz f) ah ∧ beaR sz (beatZ nu sz f) 512 beats ∧ cells = difK sz (keyZ nu sz f) 512 ∧ metR sz (keyZ nu sz f) (beatZ nu sz f) 512 la ea
theorem beaR_un {sz be : Nat → Int} {b : Nat} {y z : Int} (h1 : beaR sz be b y) (h2 : beaR sz be b z) : y = z := by
  rcases h1 with ⟨a1, ⟨a2, a3⟩ | ⟨p, a2, a3, a4⟩⟩ <;> rcases h2 with ⟨b1, ⟨b2, b3⟩ | ⟨q, b2, b3, b4⟩⟩
  · omega
  · exact absurd b3 (a3 q b2)
  · exact absurd a3 (b3 p a2)
  · have := a1 q b2 b3
    have := b1 p a2 a3
    omega
theorem isP_0 {sz : Nat → Int} (hs : SzOk sz) : isP sz 0 := by
  refine ⟨?_, ?_, ?_⟩ <;> simp <;> omega
theorem up1_id {f : Nat → Int} {k : Nat} : up1 f k (f k) = f := by
  funext j
  unfold up1
  by_cases h : j = k
  · rw [if_pos h, h]
  · rw [if_neg h]
theorem mulNN {m n : Nat} (hm : m < 1024) (hn : n < 1024) : m * n < 1048576 := by
  have := Nat.mul_le_mul (Nat.le_of_lt hm) (Nat.le_of_lt hn)
  have h2 : m * n ≤ 1023 * 1023 := Nat.mul_le_mul (by omega) (by omega)
  omega
/-- APART: the least n of which no multiple is a distance -/
def apR (D : Nat → Prop) (z : Int) : Prop := ∃ n : Nat, z = (n : Int) ∧ 1 ≤ n ∧ (∀ m : Nat, 1 ≤ m → ¬ D (m * n)) ∧ ∀ u : Nat, 1 ≤ u → u < n → ∃ m : Nat, 1 ≤ m ∧ D (m * u)
theorem apR_un {D : Nat → Prop} {y z : Int} (h1 : apR D y) (h2 : apR D z) : y = z := by
  obtain ⟨n, a1, a2, a3, a4⟩ := h1
  obtain ⟨u, b1, b2, b3, b4⟩ := h2
  rcases Nat.lt_trichotomy n u with c | c | c
  · obtain ⟨m, e1, e2⟩ := b4 n a2 c
    exact absurd e2 (a3 m e1)
  · omega
  · obtain ⟨m, e1, e2⟩ := a4 u b2 c
    exact absurd e2 (b3 m e1)
/-- two points of one key, their beats d apart -/
def dsP (sz K be : Nat → Int) (b d : Nat) : Prop := ∃ p q : Nat, p < b ∧ q < p ∧ isP sz q ∧ isP sz p ∧ K q = K p ∧ aZ (be p - be q) = (d : Int)
theorem markStep {sz K be bm bt : Nat → Int} {p q b : Nat} (hbt : ∀ d : Nat, (bt d = 0 ∨ bt d = 1) ∧ (bt d = 1 ↔ bm d = 1 ∨ ∃ u : Nat, b ≤ u ∧ u < p ∧ isP sz u ∧ K u = K p ∧ aZ (be p - be u) = (d : Int))) (h1 : q < b) (h2 : q < p) (h3 : isP sz q) (h4 : K q = K p) (h5 : ∀ r : Nat, q < r → r < b → isP sz r → K r ≠ K p) (h6 : 0 ≤ aZ (be p - be q) ∧ aZ (be p - be q) ≤ 511) : ∀ d : Nat, (up1 bt (aZ (be p - be q)).toNat 1 d = 0 ∨ up1 bt (aZ (be p - be q)).toNat 1 d = 1) ∧ (up1 bt (aZ (be p - be q)).toNat 1 d = 1 ↔ bm d = 1 ∨ ∃ u : Nat, q ≤ u ∧ u < p ∧ isP sz u ∧ K u = K p ∧ aZ (be p - be u) = (d : Int)) := by
  intro d
  by_cases hd : d = (aZ (be p - be q)).toNat
  · subst hd
    rw [up1_s]
    exact ⟨Or.inr rfl, ⟨fun _ => Or.inr ⟨q, Nat.le_refl _, h2, h3, h4, by omega⟩, fun _ => rfl⟩⟩
  · rw [up1_n hd]
    refine ⟨(hbt d).1, (hbt d).2.trans ⟨fun h => ?_, fun h => ?_⟩⟩
    · rcases h with h | ⟨u, a1, a2⟩
      · exact Or.inl h
      · exact Or.inr ⟨u, by omega, a2⟩
    · rcases h with h | ⟨u, a1, a2, a3, a4, a5⟩
      · exact Or.inl h
      · refine Or.inr ⟨u, ?_, a2, a3, a4, a5⟩
        rcases Nat.lt_or_ge u b with c | c
        · exfalso
          rcases Nat.lt_or_ge q u with e | e
          · exact h5 u e c a3 a4
          · have : u = q := by omega
            subst this
            omega
        · exact c
def mbR (sz K be : Nat → Int) (p : Nat) (z : Int) : Prop := (z = -1 ∧ ∀ u : Nat, ¬ mtP sz K be u p) ∨ ∃ u : Nat, z = (u : Int) ∧ mtP sz K be u p
theorem mbR_b {sz K be : Nat → Int} {p : Nat} {z : Int} (h : mbR sz K be p z) : -1 ≤ z ∧ z < p + 1 := by
  rcases h with ⟨e, -⟩ | ⟨u, e, f⟩
  · omega
  · have := f.1
    omega
