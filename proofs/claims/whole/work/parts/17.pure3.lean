theorem comeZ_R {sz st ed ar : Nat → Int} {v p : Nat} (h1 : ∀ q : Nat, R32 (ed q)) (h2 : ∀ q : Nat, R32 (ar q)) : R32 (comeZ sz st ed ar v p) := by
  unfold comeZ
  split
  · exact h1 _
  · exact h2 _
theorem wkA_R {sz st ac lf rt ed ar : Nat → Int} {p : Nat} (h1 : ∀ q : Nat, R32 (ed q)) (h2 : ∀ q : Nat, R32 (ar q)) : ∀ (n q : Nat), R32 (wkA sz st ac lf rt ed ar p n q) := by
  intro n
  induction n with
  | zero => exact h2
  | succ n ih =>
    intro q
    show R32 (up1 _ _ _ q)
    unfold up1
    split
    · exact madeZ_R (comeZ_R h1 ih) (comeZ_R h1 ih) (comeZ_R h1 ih)
    · exact ih q
