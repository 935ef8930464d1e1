/-! the best of a row of candidates -/
def bestAt (acc : Nat → Prop) (bt cl : Nat → Int) (n c : Nat) : Prop := c < n ∧ acc c ∧ ∀ d : Nat, d < n → acc d → bt c < bt d ∨ (bt c = bt d ∧ (cl c < cl d ∨ (cl c = cl d ∧ c ≤ d)))
theorem bestAt_un {acc : Nat → Prop} {bt cl : Nat → Int} {n c d : Nat} (h1 : bestAt acc bt cl n c) (h2 : bestAt acc bt cl n d) : c = d := by
  have a := h1.2.2 d h2.1 h2.2.1
  have b := h2.2.2 c h1.1 h1.2.1
  omega
/-- the state of a search behind the candidates below n: found, its beats and cells, its number -/
def bsR (acc : Nat → Prop) (bt cl : Nat → Int) (n : Nat) (F fb fc : Int) (c : Nat) : Prop := (F = 0 ∧ ∀ d : Nat, d < n → ¬ acc d) ∨ (F = 1 ∧ bestAt acc bt cl n c ∧ fb = bt c ∧ fc = cl c)
theorem bsR_0 {acc : Nat → Prop} {bt cl : Nat → Int} {fb fc : Int} {c : Nat} : bsR acc bt cl 0 0 fb fc c := Or.inl ⟨rfl, fun d h => absurd h (Nat.not_lt_zero _)⟩
/-- none of the next ones is taken, or better -/
theorem bsR_skip {acc : Nat → Prop} {bt cl : Nat → Int} {n m : Nat} {F fb fc : Int} {c : Nat} (h : bsR acc bt cl n F fb fc c) (hnm : n ≤ m) (hs : ∀ d : Nat, n ≤ d → d < m → acc d → F = 1 ∧ (fb < bt d ∨ (fb = bt d ∧ fc ≤ cl d))) : bsR acc bt cl m F fb fc c := by
  rcases h with ⟨a, b⟩ | ⟨a, b, d1, e1⟩
  · refine Or.inl ⟨a, fun d hd ac => ?_⟩
    rcases Nat.lt_or_ge d n with q | q
    · exact b d q ac
    · have := (hs d q hd ac).1; omega
  · refine Or.inr ⟨a, ⟨by have := b.1; omega, b.2.1, fun d hd ac => ?_⟩, d1, e1⟩
    rcases Nat.lt_or_ge d n with q | q
    · exact b.2.2 d q ac
    · have h2 := (hs d q hd ac).2
      have := b.1
      omega
theorem bsR_take {acc : Nat → Prop} {bt cl : Nat → Int} {n : Nat} {F fb fc : Int} {c : Nat} (h : bsR acc bt cl n F fb fc c) (ha : acc n) (hb : F = 0 ∨ bt n < fb ∨ (bt n = fb ∧ cl n < fc)) : bsR acc bt cl (n + 1) 1 (bt n) (cl n) n := by
  refine Or.inr ⟨rfl, ⟨by omega, ha, fun d hd ac => ?_⟩, rfl, rfl⟩
  rcases Nat.lt_succ_iff_lt_or_eq.mp hd with q | q
  · rcases h with ⟨a, b⟩ | ⟨a, b, d1, e1⟩
    · exact absurd ac (b d q)
    · have h2 := b.2.2 d q ac
      omega
  · rw [q]; omega
def nuC (b t s r : Nat) : Nat → Int := fun q => match q with
  | 0 => spA b t
  | 1 => spB b t
  | 2 => spC b t
  | 3 => spA b s
  | 4 => spB b s
  | 5 => spC b s
  | 6 => spA b r
  | 7 => spB b r
  | 8 => spC b r
  | _ => 0
abbrev vc (b : Nat) : Nat := (2 * b + 1) * (2 * b + 1) * (2 * b + 1)
def nuO (b c : Nat) : Nat → Int := nuC b (c / (vc b * vc b)) (c / vc b % vc b) (c % vc b)
def accP (sz st : Nat → Int) (nv b ln c : Nat) : Prop := c / vc b % vc b ≠ vc b / 2 ∧ (ln = 1 → c % vc b = vc b / 2) ∧ (ln = 2 → c % vc b ≠ vc b / 2) ∧ rigP (nuO b c) sz st nv
noncomputable def btC (sz : Nat → Int) (b c : Nat) : Int := buZ (nuO b c) sz
noncomputable def clC (sz : Nat → Int) (b c : Nat) : Int := difK sz (keyZ (nuO b c) sz 1) 512
abbrev ix (b t s r : Nat) : Nat := (t * vc b + s) * vc b + r
theorem vc_v {b : Nat} (hb : b = 1 ∨ b = 2) : vc b = 27 ∨ vc b = 125 := by
  rcases hb with rfl | rfl
  · exact Or.inl rfl
  · exact Or.inr rfl
theorem ix_d {b t s r : Nat} (hb : b = 1 ∨ b = 2) (hs : s < vc b) (hr : r < vc b) : ix b t s r / (vc b * vc b) = t ∧ ix b t s r / vc b % vc b = s ∧ ix b t s r % vc b = r := by
  unfold ix
  rcases vc_v hb with e | e <;> rw [e] at hs hr ⊢ <;> omega
theorem nuO_ix {b t s r : Nat} (hb : b = 1 ∨ b = 2) (hs : s < vc b) (hr : r < vc b) : nuO b (ix b t s r) = nuC b t s r := by
  have h := ix_d (t := t) hb hs hr
  unfold nuO
  rw [h.1, h.2.1, h.2.2]
theorem nuC_9 {b t s r q : Nat} (h : 9 ≤ q) : nuC b t s r q = 0 := by
  obtain ⟨k, rfl⟩ : ∃ k, q = k + 9 := ⟨q - 9, by omega⟩
  rfl
/-- a row of nine, written in three parts -/
theorem row_eq {b t s r : Nat} {g : Nat → Int} (h0 : g 0 = spA b t ∧ g 1 = spB b t ∧ g 2 = spC b t) (h1 : g 3 = spA b s ∧ g 4 = spB b s ∧ g 5 = spC b s) (h2 : g 6 = spA b r ∧ g 7 = spB b r ∧ g 8 = spC b r) (h9 : ∀ q : Nat, 9 ≤ q → g q = 0) : g = nuC b t s r := by
  funext q
  rcases (show q = 0 ∨ q = 1 ∨ q = 2 ∨ q = 3 ∨ q = 4 ∨ q = 5 ∨ q = 6 ∨ q = 7 ∨ q = 8 ∨ 9 ≤ q by omega) with rfl | rfl | rfl | rfl | rfl | rfl | rfl | rfl | rfl | e
  · exact h0.1
  · exact h0.2.1
  · exact h0.2.2
  · exact h1.1
  · exact h1.2.1
  · exact h1.2.2
  · exact h2.1
  · exact h2.2.1
  · exact h2.2.2
  · rw [h9 q e, nuC_9 e]
theorem nuC_2 {b t s r : Nat} (hb : b = 1 ∨ b = 2) (ht : t < vc b) (hs : s < vc b) (hr : r < vc b) : Nu2 (nuC b t s r) := by
  intro q hq
  have a := sp_b hb ht
  have c := sp_b hb hs
  have d := sp_b hb hr
  rcases (show q = 0 ∨ q = 1 ∨ q = 2 ∨ q = 3 ∨ q = 4 ∨ q = 5 ∨ q = 6 ∨ q = 7 ∨ q = 8 by omega) with rfl | rfl | rfl | rfl | rfl | rfl | rfl | rfl | rfl
  · show -2 ≤ spA b t ∧ spA b t ≤ 2; omega
  · show -2 ≤ spB b t ∧ spB b t ≤ 2; omega
  · show -2 ≤ spC b t ∧ spC b t ≤ 2; omega
  · show -2 ≤ spA b s ∧ spA b s ≤ 2; omega
  · show -2 ≤ spB b s ∧ spB b s ≤ 2; omega
  · show -2 ≤ spC b s ∧ spC b s ≤ 2; omega
  · show -2 ≤ spA b r ∧ spA b r ≤ 2; omega
  · show -2 ≤ spB b r ∧ spB b r ≤ 2; omega
  · show -2 ≤ spC b r ∧ spC b r ≤ 2; omega
theorem Nu2_3 {nu : Nat → Int} (h : Nu2 nu) : NuOk nu := fun q hq => by have := h q hq; omega
/-- asked of time alone -/
theorem ear_c {nu nu' sz st : Nat → Int} {v : Nat} (h0 : nu 0 = nu' 0) (h1 : nu 1 = nu' 1) (h2 : nu 2 = nu' 2) : earP nu sz st v ↔ earP nu' sz st v := by
  have e : stepB nu st 0 v = stepB nu' st 0 v := by
    unfold stepB
    show nu 0 * _ + nu 1 * _ + nu 2 * _ = nu' 0 * _ + nu' 1 * _ + nu' 2 * _
    rw [h0, h1, h2]
  unfold earP
  rw [e]
theorem buZ_c {nu nu' sz : Nat → Int} (h0 : nu 0 = nu' 0) (h1 : nu 1 = nu' 1) (h2 : nu 2 = nu' 2) : buZ nu sz = buZ nu' sz := by unfold buZ; rw [h0, h1, h2]
/-- WHAT THE SEARCH LEANS ON: how many cells, and whether two points meet, out of the vectors alone -/
def cellsOk (nu sz : Nat → Int) : Prop := (crG nu 1 2 ≠ 0 → difK sz (keyZ nu sz 1) 512 = sz 0 * sz 1 * sz 2 - bhZ sz (acF nu 1 2)) ∧ (crG nu 0 1 ≠ 0 → (metZ nu sz ↔ ¬ (bhZ sz (acF nu 0 1) = 0 ∨ dotZ nu 2 (acF nu 0 1 0) (acF nu 0 1 1) (acF nu 0 1 2) ≠ 0))) ∧ (crG nu 0 1 = 0 → (metZ nu sz ↔ difK sz (keyZ nu sz 1) 512 ≠ sz 0 * sz 1 * sz 2))
abbrev acW (g nu : Nat → Int) (o t : Nat) : Nat → Int := up1 (up1 (up1 g 0 ((crI nu o t).tdiv ((crG nu o t : Nat) : Int))) 1 ((crJ nu o t).tdiv ((crG nu o t : Nat) : Int))) 2 ((crK nu o t).tdiv ((crG nu o t : Nat) : Int))
theorem ac_row {g nu : Nat → Int} {o t : Nat} (h : Nu2 nu) (hg : ∀ d : Nat, -8 ≤ g d ∧ g d ≤ 8) (ho : o < 3) (ht : t < 3) : ∀ d : Nat, -8 ≤ acW g nu o t d ∧ acW g nu o t d ≤ 8 := by
  have c := cr_b h ho ht
  intro d
  unfold acW up1
  split
  · exact tdiv_b c.2.2.1 c.2.2.2
  · split
    · exact tdiv_b c.2.1.1 c.2.1.2
    · split
      · exact tdiv_b c.1.1 c.1.2
      · exact hg d
theorem bh_row {sz : Nat → Int} (g nu : Nat → Int) (o t : Nat) : bhZ sz (acW g nu o t) = bhZ sz (acF nu o t) := rfl
theorem do_row (g nu : Nat → Int) (h : Nu2 nu) : dotZ nu 2 (acW g nu 0 1 0) (acW g nu 0 1 1) (acW g nu 0 1 2) = dotZ nu 2 (acF nu 0 1 0) (acF nu 0 1 1) (acF nu 0 1 2) ∧ R32 (dotZ nu 2 (acW g nu 0 1 0) (acW g nu 0 1 1) (acW g nu 0 1 2)) := by
  refine ⟨rfl, ?_⟩
  have a0 := ac_b h (show 0 < 3 by omega) (show 1 < 3 by omega) 0
  have a1 := ac_b h (show 0 < 3 by omega) (show 1 < 3 by omega) 1
  have a2 := ac_b h (show 0 < 3 by omega) (show 1 < 3 by omega) 2
  have b0 := h 6 (by omega)
  have b1 := h 7 (by omega)
  have b2 := h 8 (by omega)
  have k : ∀ a b : Int, -2 ≤ a → a ≤ 2 → -8 ≤ b → b ≤ 8 → -16 ≤ a * b ∧ a * b ≤ 16 := by
    intro a b h1 h2 h3 h4
    rcases (show a = -2 ∨ a = -1 ∨ a = 0 ∨ a = 1 ∨ a = 2 by omega) with rfl | rfl | rfl | rfl | rfl <;> omega
  show R32 (nu 6 * acF nu 0 1 0 + nu 7 * acF nu 0 1 1 + nu 8 * acF nu 0 1 2)
  have c0 := k _ _ b0.1 b0.2 a0.1 a0.2
  have c1 := k _ _ b1.1 b1.2 a1.1 a1.2
  have c2 := k _ _ b2.1 b2.2 a2.1 a2.2
  omega
