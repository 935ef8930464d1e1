/-! THE PURE WORDS: points, steps, layings -/
abbrev StOk (st : Nat → Int) : Prop := ∀ q : Nat, q < 12 → -2 ≤ st q ∧ st q ≤ 2
abbrev NuOk (nu : Nat → Int) : Prop := ∀ q : Nat, q < 9 → -3 ≤ nu q ∧ nu q ≤ 3
/-- a code below 512 is a point -/
abbrev isP (sz : Nat → Int) (p : Nat) : Prop := ((p / 64 : Nat) : Int) < sz 0 ∧ ((p / 8 % 8 : Nat) : Int) < sz 1 ∧ ((p % 8 : Nat) : Int) < sz 2
theorem isP_lt {sz : Nat → Int} {p : Nat} (hs : SzOk sz) (h : isP sz p) : p < 512 := by omega
def stepZ (sz st : Nat → Int) (v p : Nat) (sg : Int) : Int := codeZ sz (((p / 64 : Nat) : Int) + sg * st (3 * v)) (((p / 8 % 8 : Nat) : Int) + sg * st (3 * v + 1)) (((p % 8 : Nat) : Int) + sg * st (3 * v + 2))
abbrev needP (sz st : Nat → Int) (v : Nat) : Prop := aZ (st (3 * v)) < sz 0 ∧ aZ (st (3 * v + 1)) < sz 1 ∧ aZ (st (3 * v + 2)) < sz 2
def dotZ (nu : Nat → Int) (h : Nat) (i j k : Int) : Int := nu (3 * h) * i + nu (3 * h + 1) * j + nu (3 * h + 2) * k
def dotP (nu : Nat → Int) (h p : Nat) : Int := dotZ nu h ((p / 64 : Nat) : Int) ((p / 8 % 8 : Nat) : Int) ((p % 8 : Nat) : Int)
def lesZ (nu sz : Nat → Int) (h : Nat) : Int := min 0 (nu (3 * h) * (sz 0 - 1)) + min 0 (nu (3 * h + 1) * (sz 1 - 1)) + min 0 (nu (3 * h + 2) * (sz 2 - 1))
def atZ (nu sz : Nat → Int) (h p : Nat) : Int := dotP nu h p - lesZ nu sz h
def beatZ (nu sz : Nat → Int) (f : Int) (p : Nat) : Int := f * atZ nu sz 0 p + atZ nu sz 1 p % f
def cellZ (nu sz : Nat → Int) (f : Int) (p : Nat) : Int := atZ nu sz 1 p / f
def stepB (nu st : Nat → Int) (h v : Nat) : Int := nu (3 * h) * st (3 * v) + nu (3 * h + 1) * st (3 * v + 1) + nu (3 * h + 2) * st (3 * v + 2)
def wayZ (nu st : Nat → Int) (v : Nat) : Int := aZ (stepB nu st 1 v) + aZ (stepB nu st 2 v)
/-- the first number below n of which P holds, or -1 -/
def isFst (P : Nat → Prop) (n : Nat) (z : Int) : Prop := (z = -1 ∧ ∀ v : Nat, v < n → ¬ P v) ∨ ∃ v : Nat, z = (v : Int) ∧ v < n ∧ P v ∧ ∀ u : Nat, u < v → ¬ P u
theorem isFst_un {P : Nat → Prop} {n : Nat} {y z : Int} (h1 : isFst P n y) (h2 : isFst P n z) : y = z := by
  rcases h1 with ⟨e1, a1⟩ | ⟨v, e1, b1, c1, d1⟩ <;> rcases h2 with ⟨e2, a2⟩ | ⟨u, e2, b2, c2, d2⟩
  · omega
  · exact absurd c2 (a1 u b2)
  · exact absurd c1 (a2 v b1)
  · rcases Nat.lt_trichotomy v u with h | h | h
    · exact absurd c1 (d2 v h)
    · omega
    · exact absurd c2 (d1 u h)
theorem isFst_R {P : Nat → Prop} {n : Nat} {z : Int} (hn : n < 1000000) (h : isFst P n z) : -1 ≤ z ∧ z < n := by
  rcases h with ⟨e, -⟩ | ⟨v, e, b, -⟩ <;> omega
/-- small products -/
theorem mulb3 {a b : Int} (h1 : -3 ≤ a) (h2 : a ≤ 3) (h3 : 0 ≤ b) (h4 : b ≤ 7) : -21 ≤ a * b ∧ a * b ≤ 21 := by
  rcases (show a = -3 ∨ a = -2 ∨ a = -1 ∨ a = 0 ∨ a = 1 ∨ a = 2 ∨ a = 3 by omega) with rfl | rfl | rfl | rfl | rfl | rfl | rfl <;> omega
theorem mulb2 {a b : Int} (h1 : -3 ≤ a) (h2 : a ≤ 3) (h3 : -2 ≤ b) (h4 : b ≤ 2) : -6 ≤ a * b ∧ a * b ≤ 6 := by
  rcases (show a = -3 ∨ a = -2 ∨ a = -1 ∨ a = 0 ∨ a = 1 ∨ a = 2 ∨ a = 3 by omega) with rfl | rfl | rfl | rfl | rfl | rfl | rfl <;> omega
theorem mulb_at {a b c : Int} (h1 : -3 ≤ a) (h2 : a ≤ 3) (h3 : 0 ≤ b) (h4 : b ≤ c) (h5 : c ≤ 7) : 0 ≤ a * b - min 0 (a * c) ∧ a * b - min 0 (a * c) ≤ 21 := by
  rcases (show a = -3 ∨ a = -2 ∨ a = -1 ∨ a = 0 ∨ a = 1 ∨ a = 2 ∨ a = 3 by omega) with rfl | rfl | rfl | rfl | rfl | rfl | rfl <;> omega
theorem stepB_b {nu st : Nat → Int} {h v : Nat} (hn : NuOk nu) (hs : StOk st) (hh : h < 3) (hv : v < 4) : -18 ≤ stepB nu st h v ∧ stepB nu st h v ≤ 18 := by
  unfold stepB
  have a0 := hn (3 * h) (by omega)
  have a1 := hn (3 * h + 1) (by omega)
  have a2 := hn (3 * h + 2) (by omega)
  have b0 := hs (3 * v) (by omega)
  have b1 := hs (3 * v + 1) (by omega)
  have b2 := hs (3 * v + 2) (by omega)
  have c0 := mulb2 a0.1 a0.2 b0.1 b0.2
  have c1 := mulb2 a1.1 a1.2 b1.1 b1.2
  have c2 := mulb2 a2.1 a2.2 b2.1 b2.2
  omega
theorem aZ_b {a n : Int} (h1 : -n ≤ a) (h2 : a ≤ n) : 0 ≤ aZ a ∧ aZ a ≤ n := by unfold aZ; split <;> omega
theorem wayZ_b {nu st : Nat → Int} {v : Nat} (hn : NuOk nu) (hs : StOk st) (hv : v < 4) : 0 ≤ wayZ nu st v ∧ wayZ nu st v ≤ 36 := by
  unfold wayZ
  have a := stepB_b (h := 1) hn hs (by omega) hv
  have b := stepB_b (h := 2) hn hs (by omega) hv
  have := aZ_b a.1 a.2
  have := aZ_b b.1 b.2
  omega
theorem dotP_b {nu : Nat → Int} {h p : Nat} (hn : NuOk nu) (hh : h < 3) (hp : p < 512) : -63 ≤ dotP nu h p ∧ dotP nu h p ≤ 63 := by
  unfold dotP dotZ
  have a0 := hn (3 * h) (by omega)
  have a1 := hn (3 * h + 1) (by omega)
  have a2 := hn (3 * h + 2) (by omega)
  have c0 := mulb3 (b := ((p / 64 : Nat) : Int)) a0.1 a0.2 (by omega) (by omega)
  have c1 := mulb3 (b := ((p / 8 % 8 : Nat) : Int)) a1.1 a1.2 (by omega) (by omega)
  have c2 := mulb3 (b := ((p % 8 : Nat) : Int)) a2.1 a2.2 (by omega) (by omega)
  omega
theorem lesZ_b {nu sz : Nat → Int} {h : Nat} (hn : NuOk nu) (hs : SzOk sz) (hh : h < 3) : -63 ≤ lesZ nu sz h ∧ lesZ nu sz h ≤ 0 := by
  unfold lesZ
  have a0 := hn (3 * h) (by omega)
  have a1 := hn (3 * h + 1) (by omega)
  have a2 := hn (3 * h + 2) (by omega)
  have c0 := mulb3 (b := sz 0 - 1) a0.1 a0.2 (by omega) (by omega)
  have c1 := mulb3 (b := sz 1 - 1) a1.1 a1.2 (by omega) (by omega)
  have c2 := mulb3 (b := sz 2 - 1) a2.1 a2.2 (by omega) (by omega)
  omega
theorem atZ_b {nu sz : Nat → Int} {h p : Nat} (hn : NuOk nu) (hs : SzOk sz) (hh : h < 3) (hp : isP sz p) : 0 ≤ atZ nu sz h p ∧ atZ nu sz h p ≤ 63 := by
  unfold atZ dotP dotZ lesZ
  have a0 := hn (3 * h) (by omega)
  have a1 := hn (3 * h + 1) (by omega)
  have a2 := hn (3 * h + 2) (by omega)
  have c0 := mulb_at (b := ((p / 64 : Nat) : Int)) (c := sz 0 - 1) a0.1 a0.2 (by omega) (by omega) (by omega)
  have c1 := mulb_at (b := ((p / 8 % 8 : Nat) : Int)) (c := sz 1 - 1) a1.1 a1.2 (by omega) (by omega) (by omega)
  have c2 := mulb_at (b := ((p % 8 : Nat) : Int)) (c := sz 2 - 1) a2.1 a2.2 (by omega) (by omega) (by omega)
  omega
theorem mulbf {f a : Int} (h1 : 1 ≤ f) (h2 : f ≤ 8) (h3 : 0 ≤ a) (h4 : a ≤ 63) : 0 ≤ f * a ∧ f * a ≤ 63 * f := by
  rcases (show f = 1 ∨ f = 2 ∨ f = 3 ∨ f = 4 ∨ f = 5 ∨ f = 6 ∨ f = 7 ∨ f = 8 by omega) with rfl | rfl | rfl | rfl | rfl | rfl | rfl | rfl <;> omega
theorem modf {f a : Int} (h1 : 1 ≤ f) : 0 ≤ a % f ∧ a % f < f := ⟨Int.emod_nonneg _ (by omega), Int.emod_lt_of_pos _ (by omega)⟩
theorem divf {f a : Int} (h1 : 1 ≤ f) (h3 : 0 ≤ a) (h4 : a ≤ 63) : 0 ≤ a / f ∧ a / f ≤ 63 := ⟨Int.ediv_nonneg h3 (by omega), Int.le_trans (Int.ediv_le_self _ h3) h4⟩
theorem beatZ_b {nu sz : Nat → Int} {f : Int} {p : Nat} (hn : NuOk nu) (hs : SzOk sz) (h1 : 1 ≤ f) (h2 : f ≤ 8) (hp : isP sz p) : 0 ≤ beatZ nu sz f p ∧ beatZ nu sz f p < 512 := by
  unfold beatZ
  have a := atZ_b (h := 0) hn hs (by omega) hp
  have b := mulbf h1 h2 a.1 a.2
  have c := modf (a := atZ nu sz 1 p) h1
  omega
theorem cellZ_b {nu sz : Nat → Int} {f : Int} {p : Nat} (hn : NuOk nu) (hs : SzOk sz) (h1 : 1 ≤ f) (hp : isP sz p) : 0 ≤ cellZ nu sz f p ∧ cellZ nu sz f p ≤ 63 := by
  unfold cellZ
  have a := atZ_b (h := 1) hn hs (by omega) hp
  exact divf h1 a.1 a.2
theorem codeZ_b {sz : Nat → Int} {i j k : Int} (hs : SzOk sz) : -1 ≤ codeZ sz i j k ∧ codeZ sz i j k < 512 := by unfold codeZ; split <;> omega
theorem stepZ_b {sz st : Nat → Int} {v p : Nat} {sg : Int} (hs : SzOk sz) : -1 ≤ stepZ sz st v p sg ∧ stepZ sz st v p sg < 512 := codeZ_b hs
/-- a number of 32 bits -/
def nrm (z : Int) : Int := (iZ z).toInt
theorem iZ_nrm (z : Int) : iZ (nrm z) = iZ z := by unfold nrm; exact iZ_of _
theorem nrm_R (z : Int) : R32 (nrm z) := toInt_R32 _
def madeZ (act own a b : Int) : Int := if act = 1 then nrm (own + a * b) else if act = 2 then min own (nrm (a + b)) else if act = 3 then min a b else if act = 4 then max a b else if act = 5 then nrm (a + b) else if act = 6 then nrm (a - b) else if act = 7 then (iZ a ^^^ iZ b).toInt else own
theorem madeZ_R {act own a b : Int} (h1 : R32 own) (h2 : R32 a) (h3 : R32 b) : R32 (madeZ act own a b) := by
  unfold madeZ
  have q1 := nrm_R (own + a * b)
  have q2 := nrm_R (a + b)
  have q3 := nrm_R (a - b)
  have q4 := toInt_R32 (iZ a ^^^ iZ b)
  repeat' split
  all_goals first | assumption | omega
def comeZ (sz st ed ar : Nat → Int) (v p : Nat) : Int := if stepZ sz st v p (-1) = -1 then ed (512 * v + p) else ar (512 * v + (stepZ sz st v p (-1)).toNat)
/-- what a point's work leaves: variables below n are worked -/
def wkA (sz st ac lf rt ed ar : Nat → Int) (p : Nat) : Nat → Nat → Int
  | 0 => ar
  | n + 1 => up1 (wkA sz st ac lf rt ed ar p n) (512 * n + p) (madeZ (ac n) (comeZ sz st ed (wkA sz st ac lf rt ed ar p n) n p) (comeZ sz st ed (wkA sz st ac lf rt ed ar p n) (lf n).toNat p) (comeZ sz st ed (wkA sz st ac lf rt ed ar p n) (rt n).toNat p))
section WWN
variable {w : WLD} {k : KX} {pc : Nat} {lv : List (Nat × Value)} {rest : List Value} {M : Mem}
theorem ww_topI {a b : Int} (h : iZ a = iZ b) (kk : WW w k pc lv (.int (iZ b) :: rest) M) : WW w k pc lv (.int (iZ a) :: rest) M := by rw [h]; exact kk
end WWN
