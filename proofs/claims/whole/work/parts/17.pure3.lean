theorem comeZ_R {sz st ed ar : Nat → Int} {v p : Nat} (h1 : ∀ q : Nat, R32 (ed q)) (h2 : ∀ q : Nat, R32 (ar q)) : R32 (comeZ sz st ed ar v p) := by
  unfold comeZ
  split
  · exact h1 _
  · exact h2 _
theorem wkA_R {sz st ac lf rt ed ar : Nat → Int} {p : Nat} (h1 : ∀ q : Nat, R32 (ed q)) (h2 : ∀ q : Nat, R32 (ar q)) : ∀ (n q : Nat), R32 (wkA sz st ac lf rt ed ar p n q) := by
  intro n
  induction n with
  | zero => exact h2
  | succ n ih =>
    intro q
    show R32 (up1 _ _ _ q)
    unfold up1
    split
    · exact madeZ_R (comeZ_R h1 ih) (comeZ_R h1 ih) (comeZ_R h1 ih)
    · exact ih q
/-- plain working of the points below t -/
def plA (sz st ac lf rt ed : Nat → Int) (nv : Nat) (ar : Nat → Int) : Nat → Nat → Int
  | 0 => ar
  | t + 1 => if isP sz t then wkA sz st ac lf rt ed (plA sz st ac lf rt ed nv ar t) t nv else plA sz st ac lf rt ed nv ar t
theorem plA_R {sz st ac lf rt ed ar : Nat → Int} {nv : Nat} (h1 : ∀ q : Nat, R32 (ed q)) (h2 : ∀ q : Nat, R32 (ar q)) : ∀ (t q : Nat), R32 (plA sz st ac lf rt ed nv ar t q) := by
  intro t
  induction t with
  | zero => exact h2
  | succ t ih =>
    intro q
    unfold plA
    split
    · exact wkA_R h1 ih nv q
    · exact ih q
theorem plA_p {sz st ac lf rt ed ar : Nat → Int} {nv t : Nat} (h : isP sz t) : plA sz st ac lf rt ed nv ar (t + 1) = wkA sz st ac lf rt ed (plA sz st ac lf rt ed nv ar t) t nv := by
  show (if isP sz t then _ else _) = _
  rw [if_pos h]
theorem plA_n {sz st ac lf rt ed ar : Nat → Int} {nv t : Nat} (h : ¬ isP sz t) : plA sz st ac lf rt ed nv ar (t + 1) = plA sz st ac lf rt ed nv ar t := by
  show (if isP sz t then _ else _) = _
  rw [if_neg h]
theorem plA_skip {sz st ac lf rt ed ar : Nat → Int} {nv a b : Nat} (hab : a ≤ b) (h : ∀ p : Nat, a ≤ p → p < b → ¬ isP sz p) : plA sz st ac lf rt ed nv ar b = plA sz st ac lf rt ed nv ar a := by
  induction b with
  | zero => rw [Nat.le_zero.mp hab]
  | succ b ih =>
    rcases Nat.lt_or_ge b a with q | q
    · rw [show b + 1 = a by omega]
    · rw [plA_n (h b q (by omega)), ih q (fun p h1 h2 => h p h1 (by omega))]
theorem cnt_skip {P : Nat → Prop} {a b : Nat} (hab : a ≤ b) (h : ∀ p : Nat, a ≤ p → p < b → ¬ P p) : cnt P b = cnt P a := by
  induction b with
  | zero => rw [Nat.le_zero.mp hab]
  | succ b ih =>
    rcases Nat.lt_or_ge b a with q | q
    · rw [show b + 1 = a by omega]
    · rw [cnt_f (h b q (by omega)), ih q (fun p h1 h2 => h p h1 (by omega))]
theorem bdN_in {co : Nat → Int} {np n : Nat} (h : n < np) : bdN co np n = (co n).toNat := by unfold bdN; rw [if_pos h]
theorem bdN_out {co : Nat → Int} {np n : Nat} (h : np ≤ n) : bdN co np n = 512 := by unfold bdN; rw [if_neg (by omega)]
theorem bd_le {sz co : Nat → Int} {np n : Nat} (h : CdOk sz co np) (hn : n < np) : (co n).toNat + 1 ≤ bdN co np (n + 1) := by
  unfold bdN
  split
  · exact h.2.1 n (n + 1) (by omega) (by assumption)
  · exact (h.1 n hn).2.1
theorem bd_gap {sz co : Nat → Int} {np n : Nat} (h : CdOk sz co np) (hn : n < np) (p : Nat) (h1 : (co n).toNat + 1 ≤ p) (h2 : p < bdN co np (n + 1)) : ¬ isP sz p := by
  intro hp
  have hle : bdN co np (n + 1) ≤ 512 := by
    unfold bdN
    split
    · exact Nat.le_of_lt (h.1 (n + 1) (by assumption)).2.1
    · exact Nat.le_refl _
  obtain ⟨m, hm, e⟩ := h.2.2.1 p (by omega) hp
  rcases Nat.lt_trichotomy m n with q | q | q
  · have := h.2.1 m n q hn
    omega
  · subst q
    omega
  · rcases Nat.lt_or_ge (n + 1) m with r | r
    · have a := h.2.1 (n + 1) m r hm
      rw [bdN_in (by omega)] at h2
      omega
    · have : m = n + 1 := by omega
      subst this
      rw [bdN_in hm] at h2
      omega
theorem bd_0 {sz co : Nat → Int} {np : Nat} (h : CdOk sz co np) (p : Nat) (h2 : p < bdN co np 0) : ¬ isP sz p := by
  intro hp
  have hle : bdN co np 0 ≤ 512 := by
    unfold bdN
    split
    · exact Nat.le_of_lt (h.1 0 (by assumption)).2.1
    · exact Nat.le_refl _
  obtain ⟨m, hm, e⟩ := h.2.2.1 p (by omega) hp
  rcases Nat.lt_or_ge 0 m with r | r
  · have a := h.2.1 0 m r hm
    rw [bdN_in (by omega)] at h2
    omega
  · have : m = 0 := by omega
    subst this
    rw [bdN_in hm] at h2
    omega
theorem plA_bd {sz st ac lf rt ed ar co : Nat → Int} {nv np n : Nat} (h : CdOk sz co np) (hn : n < np) : plA sz st ac lf rt ed nv ar (bdN co np (n + 1)) = wkA sz st ac lf rt ed (plA sz st ac lf rt ed nv ar (bdN co np n)) (co n).toNat nv := by
  rw [plA_skip (a := (co n).toNat + 1) (bd_le h hn) (bd_gap h hn), plA_p (h.1 n hn).2.2, bdN_in hn]
theorem plA_bd0 {sz st ac lf rt ed ar co : Nat → Int} {nv np : Nat} (h : CdOk sz co np) : plA sz st ac lf rt ed nv ar (bdN co np 0) = ar := plA_skip (a := 0) (Nat.zero_le _) (fun p _ h2 => bd_0 h p h2)
/-- the n-th of those of which P holds, or -1 -/
def nthR (P : Nat → Prop) (n z : Int) : Prop := (∃ p : Nat, p < 512 ∧ z = (p : Int) ∧ P p ∧ cnt P p = n) ∨ (z = -1 ∧ ∀ p : Nat, p < 512 → P p → cnt P p ≠ n)
theorem nthR_un {P : Nat → Prop} {n y z : Int} (h1 : nthR P n y) (h2 : nthR P n z) : y = z := by
  rcases h1 with ⟨p, a, b, c, d⟩ | ⟨a, b⟩ <;> rcases h2 with ⟨q, e, f, g, h⟩ | ⟨e, f⟩
  · rcases Nat.lt_trichotomy p q with r | r | r
    · have := cnt_lt r c; omega
    · omega
    · have := cnt_lt r g; omega
  · exact absurd d (f p a c)
  · exact absurd h (b q e g)
  · omega
def buZ (nu sz : Nat → Int) : Int := aZ (nu 0) * (sz 0 - 1) + aZ (nu 1) * (sz 1 - 1) + aZ (nu 2) * (sz 2 - 1) + 1
theorem buZ_b {nu sz : Nat → Int} (hn : NuOk nu) (hs : SzOk sz) : 1 ≤ buZ nu sz ∧ buZ nu sz ≤ 64 := by
  unfold buZ
  have a0 := hn 0 (by omega)
  have a1 := hn 1 (by omega)
  have a2 := hn 2 (by omega)
  have b0 := aZ_b a0.1 a0.2
  have b1 := aZ_b a1.1 a1.2
  have b2 := aZ_b a2.1 a2.2
  have c0 := mulb3 (a := aZ (nu 0)) (b := sz 0 - 1) (by omega) (by omega) (by omega) (by omega)
  have c1 := mulb3 (a := aZ (nu 1)) (b := sz 1 - 1) (by omega) (by omega) (by omega) (by omega)
  have c2 := mulb3 (a := aZ (nu 2)) (b := sz 2 - 1) (by omega) (by omega) (by omega) (by omega)
  have d0 := Int.mul_nonneg (a := aZ (nu 0)) (b := sz 0 - 1) (by omega) (by omega)
  have d1 := Int.mul_nonneg (a := aZ (nu 1)) (b := sz 1 - 1) (by omega) (by omega)
  have d2 := Int.mul_nonneg (a := aZ (nu 2)) (b := sz 2 - 1) (by omega) (by omega)
  omega
abbrev earP (nu sz st : Nat → Int) (v : Nat) : Prop := needP sz st v ∧ stepB nu st 0 v < 1
abbrev farP (nu sz st : Nat → Int) (v : Nat) : Prop := needP sz st v ∧ stepB nu st 0 v < wayZ nu st v
theorem up1_up1 {f : Nat → Int} {k : Nat} {a b : Int} : up1 (up1 f k a) k b = up1 f k b := by
  funext j
  unfold up1
  by_cases h : j = k
  · rw [if_pos h, if_pos h]
  · rw [if_neg h, if_neg h, if_neg h]
theorem up1_comm {f : Nat → Int} {k m : Nat} {a b : Int} (q : k ≠ m) : up1 (up1 f k a) m b = up1 (up1 f m b) k a := by
  funext j
  unfold up1
  by_cases h : j = m
  · rw [if_pos h]
    by_cases g : j = k
    · exact absurd (g.symm.trans h) q
    · rw [if_neg g, if_pos h]
  · rw [if_neg h]
    by_cases g : j = k
    · rw [if_pos g, if_pos g]
    · rw [if_neg g, if_neg g, if_neg h]
theorem codeZ_P {sz : Nat → Int} {p : Nat} (h : isP sz p) : codeZ sz ((p / 64 : Nat) : Int) ((p / 8 % 8 : Nat) : Int) ((p % 8 : Nat) : Int) = (p : Int) := by
  unfold codeZ
  rw [if_pos (by omega)]
  omega
theorem codeZ_N {sz : Nat → Int} {p : Nat} (h : ¬ isP sz p) : codeZ sz ((p / 64 : Nat) : Int) ((p / 8 % 8 : Nat) : Int) ((p % 8 : Nat) : Int) = -1 := by
  unfold codeZ
  rw [if_neg (by omega)]
