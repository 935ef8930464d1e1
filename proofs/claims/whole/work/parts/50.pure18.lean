theorem row_up {g : Nat → Int} {b t s r : Nat} (h9 : ∀ q : Nat, 9 ≤ q → g q = 0) (h0 : g 0 = spA b t ∧ g 1 = spB b t ∧ g 2 = spC b t) (h1 : g 3 = spA b s ∧ g 4 = spB b s ∧ g 5 = spC b s) : up1 (up1 (up1 g 6 (spA b r)) 7 (spB b r)) 8 (spC b r) = nuC b t s r := by
  refine row_eq ?_ ?_ ⟨rfl, rfl, rfl⟩ (fun q hq => ?_)
  · exact h0
  · exact h1
  · rw [up1_n (by omega), up1_n (by omega), up1_n (by omega)]
    exact h9 q hq
def frR (M M1 : Mem) : Prop := ∀ h : Nat, h ≠ 37 → h ≠ 40 → h ≠ 43 → M1 h = M h
theorem frR_rf (M : Mem) : frR M M := fun _ _ _ _ => rfl
theorem frR_37 {M Mt : Mem} {g : Nat → Int} (h : frR M Mt) : frR M (ups Mt 37 g) := fun j a b c => by rw [ups_n a]; exact h j a b c
theorem frR_40 {M Mt : Mem} {g : Nat → Int} (h : frR M Mt) : frR M (ups Mt 40 g) := fun j a b c => by rw [ups_n b]; exact h j a b c
theorem frR_43 {M Mt : Mem} {g : Nat → Int} (h : frR M Mt) : frR M (ups Mt 43 g) := fun j a b c => by rw [ups_n c]; exact h j a b c
def mbsR (M M1 : Mem) (nv b ln : Nat) (z : Int) : Prop := (((∀ d : Nat, d < ix b (vc b) 0 0 → ¬ accP (M 31) (M 32) nv b ln d) ∧ z = -1 ∧ M1 37 = M 37 ∧ M1 30 9 = M 30 9) ∨ (∃ c : Nat, bestAt (accP (M 31) (M 32) nv b ln) (btC (M 31) b) (clC (M 31) b) (ix b (vc b) 0 0) c ∧ M1 37 = nuO b c ∧ beaR (M 31) (beatZ (nuO b c) (M 31) (M 30 8)) 512 z ∧ M1 30 9 = 0)) ∧ M1 30 1 = M 30 1 ∧ M1 30 8 = M 30 8 ∧ (∀ j : Nat, 4096 ≤ j → M1 40 j = 0) ∧ ∀ h : Nat, h ≠ 30 → h ≠ 37 → h ≠ 40 → h ≠ 42 → h ≠ 43 → M1 h = M h
theorem nu3_up {g : Nat → Int} {b n q : Nat} (hb : b = 1 ∨ b = 2) (hn : n < vc b) (h : NuOk g) : NuOk (up1 (up1 (up1 g (3 * q) (spA b n)) (3 * q + 1) (spB b n)) (3 * q + 2) (spC b n)) := by
  have k := sp2 hb hn
  intro j hj
  unfold up1
  split
  · have := k.2.2; omega
  · split
    · have := k.2.1; omega
    · split
      · have := k.1; omega
      · exact h j hj
theorem RS_yes {sz st : Nat → Int} {nv b ln n : Nat} {le fe : Int} {fd : Nat → Int} (h : RS sz st nv b ln n le fe fd) (h0 : 0 ≤ le) : ∃ c : Nat, bestAt (accP sz st nv b ln) (btC sz b) (clC sz b) n c ∧ ∀ j : Nat, j < 9 → fd j = nuO b c j := by
  obtain ⟨⟨c, h⟩, -⟩ := h
  rcases h with ⟨a, -⟩ | ⟨a, b1, c1, d1, e1⟩
  · omega
  · exact ⟨c, b1, e1⟩
theorem RS_non {sz st : Nat → Int} {nv b ln n : Nat} {le fe : Int} {fd : Nat → Int} (h : RS sz st nv b ln n le fe fd) (h0 : ¬ 0 ≤ le) : ∀ d : Nat, d < n → ¬ accP sz st nv b ln d := by
  obtain ⟨⟨c, h⟩, -⟩ := h
  rcases h with ⟨-, a⟩ | ⟨a, -⟩
  · exact a
  · omega
theorem nuO_9 {b c q : Nat} (h : 9 ≤ q) : nuO b c q = 0 := nuC_9 h
theorem mbs_no {M Mt : Mem} {nv b ln k : Nat} {le fe : Int} (hk : k = 9) (hfr : frR (ups (ups M 42 (cpy 9 (M 37) (M 42))) 30 (up1 (M 30) 8 1)) Mt) (hrs : RS (M 31) (M 32) nv b ln (ix b (vc b) 0 0) le fe (Mt 43)) (h0 : ¬ 0 ≤ le) (h9 : ∀ q : Nat, 9 ≤ q → Mt 37 q = 0) (h37 : ∀ q : Nat, 9 ≤ q → M 37 q = 0) (h40 : ∀ j : Nat, 4096 ≤ j → Mt 40 j = 0) : mbsR M (ups (ups Mt 30 (up1 (Mt 30) 8 (M 30 8))) 37 (cpy k (if le < 0 then Mt 42 else Mt 43) (Mt 37))) nv b ln (-1) := by
  have q30 : Mt 30 = up1 (M 30) 8 1 := hfr 30 (by decide) (by decide) (by decide)
  have q42 : Mt 42 = cpy 9 (M 37) (M 42) := hfr 42 (by decide) (by decide) (by decide)
  subst hk
  refine ⟨Or.inl ⟨RS_non hrs h0, rfl, ?_, ?_⟩, ?_, ?_, h40, fun h a b1 c d e => ?_⟩
  · show cpy 9 (if le < 0 then Mt 42 else Mt 43) (Mt 37) = M 37
    rw [if_pos (by omega), q42]
    funext j
    unfold cpy
    by_cases hj : j < 9
    · rw [if_pos hj, if_pos hj]
    · rw [if_neg hj, h9 j (by omega), h37 j (by omega)]
  · show up1 (Mt 30) 8 (M 30 8) 9 = M 30 9
    rw [q30]; rfl
  · show up1 (Mt 30) 8 (M 30 8) 1 = M 30 1
    rw [q30]; rfl
  · rfl
  · rw [ups_n b1, ups_n a, hfr h b1 c e, ups_n a, ups_n d]
theorem mbs_row {Mt : Mem} {b c k : Nat} {le : Int} (hk : k = 9) (h0 : 0 ≤ le) (hc : ∀ j : Nat, j < 9 → Mt 43 j = nuO b c j) (h9 : ∀ q : Nat, 9 ≤ q → Mt 37 q = 0) : cpy k (if le < 0 then Mt 42 else Mt 43) (Mt 37) = nuO b c := by
  subst hk
  rw [if_neg (by omega)]
  funext j
  unfold cpy
  by_cases hj : j < 9
  · rw [if_pos hj]; exact hc j hj
  · rw [if_neg hj, h9 j (by omega), nuO_9 (by omega)]
theorem mbs_yes {M Mt : Mem} {nv b ln c : Nat} {z : Int} (hfr : frR (ups (ups M 42 (cpy 9 (M 37) (M 42))) 30 (up1 (M 30) 8 1)) Mt) (hc : bestAt (accP (M 31) (M 32) nv b ln) (btC (M 31) b) (clC (M 31) b) (ix b (vc b) 0 0) c) (h40 : ∀ j : Nat, 4096 ≤ j → Mt 40 j = 0) (hz : beaR (Mt 31) (beatZ (nuO b c) (Mt 31) (M 30 8)) 512 z) : mbsR M (ups (ups Mt 30 (up1 (up1 (Mt 30) 8 (M 30 8)) 9 0)) 37 (nuO b c)) nv b ln z := by
  have q30 : Mt 30 = up1 (M 30) 8 1 := hfr 30 (by decide) (by decide) (by decide)
  have q31 : Mt 31 = M 31 := hfr 31 (by decide) (by decide) (by decide)
  rw [q31] at hz
  refine ⟨Or.inr ⟨c, hc, rfl, hz, rfl⟩, ?_, rfl, h40, fun h a b1 c1 d e => ?_⟩
  · show up1 (up1 (Mt 30) 8 (M 30 8)) 9 0 1 = M 30 1
    rw [q30]; rfl
  · rw [ups_n b1, ups_n a, hfr h b1 c1 e, ups_n a, ups_n d]
