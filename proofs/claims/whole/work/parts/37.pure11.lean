/-! the search: vectors, what lies across two of them -/
def crI (nu : Nat → Int) (o t : Nat) : Int := nu (3 * o + 1) * nu (3 * t + 2) - nu (3 * o + 2) * nu (3 * t + 1)
def crJ (nu : Nat → Int) (o t : Nat) : Int := nu (3 * o + 2) * nu (3 * t) - nu (3 * o) * nu (3 * t + 2)
def crK (nu : Nat → Int) (o t : Nat) : Int := nu (3 * o) * nu (3 * t + 1) - nu (3 * o + 1) * nu (3 * t)
def crG (nu : Nat → Int) (o t : Nat) : Nat := Nat.gcd (aZ (crI nu o t)).toNat (Nat.gcd (aZ (crJ nu o t)).toNat (aZ (crK nu o t)).toNat)
def acF (nu : Nat → Int) (o t : Nat) (d : Nat) : Int := if d = 0 then (crI nu o t).tdiv (crG nu o t) else if d = 1 then (crJ nu o t).tdiv (crG nu o t) else (crK nu o t).tdiv (crG nu o t)
def bhZ (sz ac : Nat → Int) : Int := max 0 (sz 0 - aZ (ac 0)) * max 0 (sz 1 - aZ (ac 1)) * max 0 (sz 2 - aZ (ac 2))
abbrev Nu2 (nu : Nat → Int) : Prop := ∀ q : Nat, q < 9 → -2 ≤ nu q ∧ nu q ≤ 2
theorem mulb22 {a b : Int} (h1 : -2 ≤ a) (h2 : a ≤ 2) (h3 : -2 ≤ b) (h4 : b ≤ 2) : -4 ≤ a * b ∧ a * b ≤ 4 := by
  rcases (show a = -2 ∨ a = -1 ∨ a = 0 ∨ a = 1 ∨ a = 2 by omega) with rfl | rfl | rfl | rfl | rfl <;> omega
theorem cr_b {nu : Nat → Int} {o t : Nat} (h : Nu2 nu) (ho : o < 3) (ht : t < 3) : (-8 ≤ crI nu o t ∧ crI nu o t ≤ 8) ∧ (-8 ≤ crJ nu o t ∧ crJ nu o t ≤ 8) ∧ (-8 ≤ crK nu o t ∧ crK nu o t ≤ 8) := by
  have a0 := h (3 * o) (by omega)
  have a1 := h (3 * o + 1) (by omega)
  have a2 := h (3 * o + 2) (by omega)
  have b0 := h (3 * t) (by omega)
  have b1 := h (3 * t + 1) (by omega)
  have b2 := h (3 * t + 2) (by omega)
  unfold crI crJ crK
  have c1 := mulb22 a1.1 a1.2 b2.1 b2.2
  have c2 := mulb22 a2.1 a2.2 b1.1 b1.2
  have c3 := mulb22 a2.1 a2.2 b0.1 b0.2
  have c4 := mulb22 a0.1 a0.2 b2.1 b2.2
  have c5 := mulb22 a0.1 a0.2 b1.1 b1.2
  have c6 := mulb22 a1.1 a1.2 b0.1 b0.2
  omega
theorem gcd_le8 {a b c : Nat} (ha : a ≤ 8) (hb : b ≤ 8) (hc : c ≤ 8) : Nat.gcd b c ≤ 8 ∧ Nat.gcd a (Nat.gcd b c) ≤ 8 := by
  have k : ∀ x y : Nat, x ≤ 8 → y ≤ 8 → Nat.gcd x y ≤ 8 := by
    intro x y hx hy
    rcases Nat.eq_zero_or_pos y with e | e
    · rw [e, Nat.gcd_zero_right]; exact hx
    · exact Nat.le_trans (Nat.gcd_le_right x e) hy
  exact ⟨k b c hb hc, k a _ ha (k b c hb hc)⟩
theorem tdiv_b {a : Int} {g : Nat} (h1 : -8 ≤ a) (h2 : a ≤ 8) : -8 ≤ a.tdiv g ∧ a.tdiv g ≤ 8 := by
  have h := Int.natAbs_tdiv_le_natAbs a (g : Int)
  omega
theorem ac_b {nu : Nat → Int} {o t : Nat} (h : Nu2 nu) (ho : o < 3) (ht : t < 3) (d : Nat) : -8 ≤ acF nu o t d ∧ acF nu o t d ≤ 8 := by
  have c := cr_b h ho ht
  unfold acF
  split
  · exact tdiv_b c.1.1 c.1.2
  · split
    · exact tdiv_b c.2.1.1 c.2.1.2
    · exact tdiv_b c.2.2.1 c.2.2.2
def spA (b n : Nat) : Int := ((n / ((2 * b + 1) * (2 * b + 1)) : Nat) : Int) - b
def spB (b n : Nat) : Int := ((n / (2 * b + 1) % (2 * b + 1) : Nat) : Int) - b
def spC (b n : Nat) : Int := ((n % (2 * b + 1) : Nat) : Int) - b
theorem sp_b {b n : Nat} (hb : b = 1 ∨ b = 2) (hn : n < (2 * b + 1) * (2 * b + 1) * (2 * b + 1)) : (-(b : Int) ≤ spA b n ∧ spA b n ≤ b) ∧ (-(b : Int) ≤ spB b n ∧ spB b n ≤ b) ∧ (-(b : Int) ≤ spC b n ∧ spC b n ≤ b) := by
  unfold spA spB spC
  rcases hb with rfl | rfl <;> simp only [Nat.reduceMul, Nat.reduceAdd] at hn ⊢ <;> omega
theorem bh_b {sz ac : Nat → Int} (hs : SzOk sz) (h : ∀ d : Nat, -8 ≤ ac d ∧ ac d ≤ 8) : 0 ≤ bhZ sz ac ∧ bhZ sz ac ≤ 512 := by
  unfold bhZ
  have a0 := aZ_b (h 0).1 (h 0).2
  have a1 := aZ_b (h 1).1 (h 1).2
  have a2 := aZ_b (h 2).1 (h 2).2
  have h1 : 0 ≤ max 0 (sz 0 - aZ (ac 0)) * max 0 (sz 1 - aZ (ac 1)) := Int.mul_nonneg (by omega) (by omega)
  have h2 : max 0 (sz 0 - aZ (ac 0)) * max 0 (sz 1 - aZ (ac 1)) ≤ 8 * 8 := Int.mul_le_mul (by omega) (by omega) (by omega) (by omega)
  have h3 : max 0 (sz 0 - aZ (ac 0)) * max 0 (sz 1 - aZ (ac 1)) * max 0 (sz 2 - aZ (ac 2)) ≤ 64 * 8 := Int.mul_le_mul (by omega) (by omega) (by omega) (by omega)
  exact ⟨Int.mul_nonneg h1 (by omega), by omega⟩
