/-! runs: the points by their beats -/
theorem cnt_ex {P : Nat → Prop} {N : Nat} {k : Int} (h0 : 0 ≤ k) (h : k < cnt P N) : ∃ p : Nat, p < N ∧ P p ∧ cnt P p = k := by
  induction N with
  | zero => exact absurd h (by show ¬ k < 0; omega)
  | succ N ih =>
    by_cases q : P N
    · rw [cnt_t q] at h
      rcases Int.lt_or_le k (cnt P N) with r | r
      · obtain ⟨p, a, b, c⟩ := ih r
        exact ⟨p, by omega, b, c⟩
      · exact ⟨N, by omega, q, by omega⟩
    · rw [cnt_f q] at h
      obtain ⟨p, a, b, c⟩ := ih h
      exact ⟨p, by omega, b, c⟩
theorem cnt_no {P : Nat → Prop} {a b : Nat} (h : cnt P a = cnt P b) (u : Nat) (h1 : a ≤ u) (h2 : u < b) : ¬ P u := by
  intro p
  have x := cnt_le (P := P) h1
  have y := cnt_lt h2 p
  omega
theorem cnt_dj {P Q S : Nat → Prop} {n : Nat} (h : ∀ k : Nat, k < n → (S k ↔ P k ∨ Q k)) (hd : ∀ k : Nat, k < n → ¬ (P k ∧ Q k)) : cnt S n = cnt P n + cnt Q n := by
  induction n with
  | zero => rfl
  | succ n ih =>
    have e := ih (fun k hk => h k (by omega)) (fun k hk => hd k (by omega))
    have a := h n (by omega)
    have b := hd n (by omega)
    by_cases p : P n
    · have q : ¬ Q n := fun q => b ⟨p, q⟩
      rw [cnt_t p, cnt_f q, cnt_t (a.mpr (Or.inl p)), e]
      omega
    · by_cases q : Q n
      · rw [cnt_f p, cnt_t q, cnt_t (a.mpr (Or.inr q)), e]
        omega
      · rw [cnt_f p, cnt_f q, cnt_f (fun s => (a.mp s).elim p q), e]
theorem cnt_co {sz co : Nat → Int} {np : Nat} (h : CdOk sz co np) (Q : Nat → Prop) : ∀ t : Nat, t ≤ np → cnt (fun m => Q (co m).toNat) t = cnt (fun p => isP sz p ∧ Q p) (bdN co np t) := by
  intro t
  induction t with
  | zero => exact fun _ => (cnt_skip (a := 0) (Nat.zero_le _) (fun p _ b q => bd_0 h p b q.1)).symm
  | succ t ih =>
    intro ht
    have e := ih (by omega)
    rw [cnt_skip (a := (co t).toNat + 1) (bd_le h (by omega)) (fun p a b q => bd_gap h (by omega) p a b q.1)]
    rw [bdN_in (show t < np by omega)] at e
    by_cases q : Q (co t).toNat
    · rw [cnt_t (P := fun m => Q (co m).toNat) q, cnt_t (P := fun p => isP sz p ∧ Q p) ⟨(h.1 t (by omega)).2.2, q⟩, e]
    · rw [cnt_f (P := fun m => Q (co m).toNat) q, cnt_f (P := fun p => isP sz p ∧ Q p) (fun r => q r.2), e]
/-- how many points have a lesser beat; this beat, and are ahead -/
noncomputable def posZ (sz B : Nat → Int) (p : Nat) : Int := cnt (fun r => isP sz r ∧ B r < B p) 512 + cnt (fun r => isP sz r ∧ B r = B p) p
def SoOk (sz B : Nat → Int) (bt : Nat) (stt od : Nat → Int) : Prop := (∀ x : Nat, x ≤ bt → stt x = cnt (fun r => isP sz r ∧ B r < (x : Int)) 512) ∧ ∀ p : Nat, isP sz p → od (posZ sz B p).toNat = (p : Int)
theorem cnt_lt1 {sz B : Nat → Int} (b n : Nat) : cnt (fun r => isP sz r ∧ B r < ((b + 1 : Nat) : Int)) n = cnt (fun r => isP sz r ∧ B r < (b : Int)) n + cnt (fun r => isP sz r ∧ B r = (b : Int)) n := by
  refine cnt_dj (fun k _ => ⟨fun h => ?_, fun h => ?_⟩) (fun k _ h => ?_)
  · rcases Int.lt_or_le (B k) b with q | q
    · exact Or.inl ⟨h.1, q⟩
    · exact Or.inr ⟨h.1, by omega⟩
  · rcases h with h | h
    · exact ⟨h.1, by omega⟩
    · exact ⟨h.1, by omega⟩
  · omega
/-- the n-th place of the order is a point of beat b -/
theorem so_at {sz B : Nat → Int} {bt : Nat} {stt od : Nat → Int} (hs : SzOk sz) (h : SoOk sz B bt stt od) {b : Nat} (hb : b < bt) {n : Nat} (h1 : stt b ≤ (n : Int)) (h2 : (n : Int) < stt (b + 1)) : ∃ p : Nat, isP sz p ∧ B p = (b : Int) ∧ od n = (p : Int) ∧ cnt (fun r => isP sz r ∧ B r = (b : Int)) p = (n : Int) - stt b := by
  have e1 := h.1 b (by omega)
  have e2 := h.1 (b + 1) (by omega)
  rw [cnt_lt1, ← e1] at e2
  obtain ⟨p, a, ⟨c, d⟩, e⟩ := cnt_ex (P := fun r => isP sz r ∧ B r = (b : Int)) (N := 512) (k := (n : Int) - stt b) (by omega) (by omega)
  refine ⟨p, c, d, ?_, e⟩
  have g := h.2 p c
  have hp : posZ sz B p = (n : Int) := by
    unfold posZ
    rw [d, ← e1, e]
    omega
  rw [hp] at g
  exact g
/-- beat b: its points below t are worked -/
def inB (sz st ac lf rt ed B : Nat → Int) (nv b : Nat) (ar : Nat → Int) : Nat → Nat → Int
  | 0 => ar
  | t + 1 => if isP sz t ∧ B t = (b : Int) then wkA sz st ac lf rt ed (inB sz st ac lf rt ed B nv b ar t) t nv else inB sz st ac lf rt ed B nv b ar t
def outB (sz st ac lf rt ed B : Nat → Int) (nv : Nat) (ar : Nat → Int) : Nat → Nat → Int
  | 0 => ar
  | b + 1 => inB sz st ac lf rt ed B nv b (outB sz st ac lf rt ed B nv ar b) 512
theorem inB_p {sz st ac lf rt ed B ar : Nat → Int} {nv b t : Nat} (h : isP sz t ∧ B t = (b : Int)) : inB sz st ac lf rt ed B nv b ar (t + 1) = wkA sz st ac lf rt ed (inB sz st ac lf rt ed B nv b ar t) t nv := by
  show (if isP sz t ∧ B t = (b : Int) then _ else _) = _
  rw [if_pos h]
theorem inB_n {sz st ac lf rt ed B ar : Nat → Int} {nv b t : Nat} (h : ¬ (isP sz t ∧ B t = (b : Int))) : inB sz st ac lf rt ed B nv b ar (t + 1) = inB sz st ac lf rt ed B nv b ar t := by
  show (if isP sz t ∧ B t = (b : Int) then _ else _) = _
  rw [if_neg h]
theorem inB_skip {sz st ac lf rt ed B ar : Nat → Int} {nv b x y : Nat} (hxy : x ≤ y) (h : ∀ p : Nat, x ≤ p → p < y → ¬ (isP sz p ∧ B p = (b : Int))) : inB sz st ac lf rt ed B nv b ar y = inB sz st ac lf rt ed B nv b ar x := by
  induction y with
  | zero => rw [Nat.le_zero.mp hxy]
  | succ y ih =>
    rcases Nat.lt_or_ge y x with q | q
    · rw [show y + 1 = x by omega]
    · rw [inB_n (h y q (by omega)), ih q (fun p h1 h2 => h p h1 (by omega))]
theorem inB_eq {sz st ac lf rt ed B ar : Nat → Int} {nv b x y : Nat} (h : cnt (fun r => isP sz r ∧ B r = (b : Int)) x = cnt (fun r => isP sz r ∧ B r = (b : Int)) y) : inB sz st ac lf rt ed B nv b ar x = inB sz st ac lf rt ed B nv b ar y := by
  rcases Nat.le_total x y with q | q
  · exact (inB_skip q (fun p h1 h2 => cnt_no h p h1 h2)).symm
  · exact inB_skip q (fun p h1 h2 => cnt_no h.symm p h1 h2)
theorem inB_R {sz st ac lf rt ed B ar : Nat → Int} {nv b : Nat} (h1 : ∀ q : Nat, R32 (ed q)) (h2 : ∀ q : Nat, R32 (ar q)) : ∀ (t q : Nat), R32 (inB sz st ac lf rt ed B nv b ar t q) := by
  intro t
  induction t with
  | zero => exact h2
  | succ t ih =>
    intro q
    by_cases h : isP sz t ∧ B t = (b : Int)
    · rw [inB_p h]; exact wkA_R h1 ih nv q
    · rw [inB_n h]; exact ih q
theorem outB_R {sz st ac lf rt ed B ar : Nat → Int} {nv : Nat} (h1 : ∀ q : Nat, R32 (ed q)) (h2 : ∀ q : Nat, R32 (ar q)) : ∀ (b q : Nat), R32 (outB sz st ac lf rt ed B nv ar b q) := by
  intro b
  induction b with
  | zero => exact h2
  | succ b ih => exact fun q => inB_R h1 ih 512 q
/-- held: differences and sums -/
abbrev nxP (sz st : Nat → Int) (v p : Nat) : Prop := isP sz p ∧ stepZ sz st v p 1 ≠ -1
noncomputable def upC (sz st B : Nat → Int) (v : Nat) (x : Int) (n : Nat) : Int := cnt (fun p => nxP sz st v p ∧ B p = x) n
noncomputable def dnC (sz st B : Nat → Int) (v : Nat) (x : Int) (n : Nat) : Int := cnt (fun p => nxP sz st v p ∧ B (stepZ sz st v p 1).toNat = x) n
noncomputable def dsu (sz st B : Nat → Int) (x : Int) : Nat → Int
  | 0 => 0
  | v + 1 => dsu sz st B x v + (upC sz st B v x 512 - dnC sz st B v x 512)
abbrev heP (sz st B : Nat → Int) (v : Nat) (b : Int) (p : Nat) : Prop := nxP sz st v p ∧ B p ≤ b ∧ b < B (stepZ sz st v p 1).toNat
noncomputable def hsu (sz st B : Nat → Int) (b : Int) : Nat → Int
  | 0 => 0
  | v + 1 => hsu sz st B b v + cnt (heP sz st B v b) 512
def sumT (f : Nat → Int) : Nat → Int
  | 0 => f 0
  | b + 1 => sumT f b + f (b + 1)
theorem sumT_cnt {Q : Nat → Prop} {B : Nat → Int} (h0 : ∀ p : Nat, Q p → 0 ≤ B p) (n : Nat) : ∀ b : Nat, sumT (fun x => cnt (fun p => Q p ∧ B p = (x : Int)) n) b = cnt (fun p => Q p ∧ B p ≤ (b : Int)) n := by
  intro b
  induction b with
  | zero =>
    refine cnt_c (fun k _ => ⟨fun h => ⟨h.1, by omega⟩, fun h => ⟨h.1, ?_⟩⟩)
    have := h0 k h.1
    omega
  | succ b ih =>
    show sumT _ b + cnt (fun p => Q p ∧ B p = ((b + 1 : Nat) : Int)) n = _
    rw [ih]
    refine (cnt_dj (fun k _ => ⟨fun h => ?_, fun h => ?_⟩) (fun k _ h => ?_)).symm
    · rcases Int.lt_or_le (B k) ((b : Int) + 1) with q | q
      · exact Or.inl ⟨h.1, by omega⟩
      · exact Or.inr ⟨h.1, by omega⟩
    · rcases h with h | h
      · exact ⟨h.1, by omega⟩
      · exact ⟨h.1, by omega⟩
    · omega
theorem sumT_add (f g : Nat → Int) : ∀ b : Nat, sumT (fun x => f x + g x) b = sumT f b + sumT g b := by
  intro b
  induction b with
  | zero => rfl
  | succ b ih =>
    show sumT _ b + (f (b + 1) + g (b + 1)) = (sumT f b + f (b + 1)) + (sumT g b + g (b + 1))
    rw [ih]
    omega
theorem sumT_sub (f g : Nat → Int) : ∀ b : Nat, sumT (fun x => f x - g x) b = sumT f b - sumT g b := by
  intro b
  induction b with
  | zero => rfl
  | succ b ih =>
    show sumT _ b + (f (b + 1) - g (b + 1)) = (sumT f b + f (b + 1)) - (sumT g b + g (b + 1))
    rw [ih]
    omega
theorem sumT_0 : ∀ b : Nat, sumT (fun _ => 0) b = 0 := by
  intro b
  induction b with
  | zero => rfl
  | succ b ih => show sumT _ b + 0 = 0; rw [ih]; rfl
theorem held_eq {sz st B : Nat → Int} {nv : Nat} (hB : ∀ p : Nat, isP sz p → 0 ≤ B p) (hn : ∀ v p : Nat, v < nv → nxP sz st v p → isP sz (stepZ sz st v p 1).toNat ∧ B p < B (stepZ sz st v p 1).toNat) (b : Nat) : ∀ v : Nat, v ≤ nv → sumT (fun x => dsu sz st B (x : Int) v) b = hsu sz st B (b : Int) v := by
  intro v
  induction v with
  | zero => exact fun _ => sumT_0 b
  | succ v ih =>
    intro hv
    show sumT (fun x => dsu sz st B (x : Int) v + (upC sz st B v (x : Int) 512 - dnC sz st B v (x : Int) 512)) b = hsu sz st B (b : Int) v + cnt (heP sz st B v (b : Int)) 512
    rw [sumT_add, ih (by omega), sumT_sub]
    have e1 : sumT (fun x => upC sz st B v (x : Int) 512) b = cnt (fun p => nxP sz st v p ∧ B p ≤ (b : Int)) 512 := sumT_cnt (fun p h => hB p h.1) 512 b
    have e2 : sumT (fun x => dnC sz st B v (x : Int) 512) b = cnt (fun p => nxP sz st v p ∧ B (stepZ sz st v p 1).toNat ≤ (b : Int)) 512 := sumT_cnt (B := fun p => B (stepZ sz st v p 1).toNat) (fun p h => hB _ (hn v p (by omega) h).1) 512 b
    have e3 : cnt (fun p => nxP sz st v p ∧ B p ≤ (b : Int)) 512 = cnt (heP sz st B v (b : Int)) 512 + cnt (fun p => nxP sz st v p ∧ B (stepZ sz st v p 1).toNat ≤ (b : Int)) 512 := by
      refine cnt_dj (fun k _ => ⟨fun h => ?_, fun h => ?_⟩) (fun k _ h => ?_)
      · rcases Int.lt_or_le (b : Int) (B (stepZ sz st v k 1).toNat) with q | q
        · exact Or.inl ⟨h.1, h.2, q⟩
        · exact Or.inr ⟨h.1, q⟩
      · rcases h with h | h
        · exact ⟨h.1, h.2.1⟩
        · have := (hn v k (by omega) h.1).2
          exact ⟨h.1, by omega⟩
      · have := h.1.2.2
        have := h.2.2
        omega
    rw [e1, e2, e3]
    omega
