/-! runs: the points by their beats -/
theorem cnt_ex {P : Nat → Prop} {N : Nat} {k : Int} (h0 : 0 ≤ k) (h : k < cnt P N) : ∃ p : Nat, p < N ∧ P p ∧ cnt P p = k := by
  induction N with
  | zero => exact absurd h (by show ¬ k < 0; omega)
  | succ N ih =>
    by_cases q : P N
    · rw [cnt_t q] at h
      rcases Int.lt_or_le k (cnt P N) with r | r
      · obtain ⟨p, a, b, c⟩ := ih r
        exact ⟨p, by omega, b, c⟩
      · exact ⟨N, by omega, q, by omega⟩
    · rw [cnt_f q] at h
      obtain ⟨p, a, b, c⟩ := ih h
      exact ⟨p, by omega, b, c⟩
theorem cnt_no {P : Nat → Prop} {a b : Nat} (h : cnt P a = cnt P b) (u : Nat) (h1 : a ≤ u) (h2 : u < b) : ¬ P u := by
  intro p
  have x := cnt_le (P := P) h1
  have y := cnt_lt h2 p
  omega
theorem cnt_dj {P Q S : Nat → Prop} {n : Nat} (h : ∀ k : Nat, k < n → (S k ↔ P k ∨ Q k)) (hd : ∀ k : Nat, k < n → ¬ (P k ∧ Q k)) : cnt S n = cnt P n + cnt Q n := by
  induction n with
  | zero => rfl
  | succ n ih =>
    have e := ih (fun k hk => h k (by omega)) (fun k hk => hd k (by omega))
    have a := h n (by omega)
    have b := hd n (by omega)
    by_cases p : P n
    · have q : ¬ Q n := fun q => b ⟨p, q⟩
      rw [cnt_t p, cnt_f q, cnt_t (a.mpr (Or.inl p)), e]
      omega
    · by_cases q : Q n
      · rw [cnt_f p, cnt_t q, cnt_t (a.mpr (Or.inr q)), e]
        omega
      · rw [cnt_f p, cnt_f q, cnt_f (fun s => (a.mp s).elim p q), e]
theorem cnt_co {sz co : Nat → Int} {np : Nat} (h : CdOk sz co np) (Q : Nat → Prop) : ∀ t : Nat, t ≤ np → cnt (fun m => Q (co m).toNat) t = cnt (fun p => isP sz p ∧ Q p) (bdN co np t) := by
  intro t
  induction t with
  | zero => exact fun _ => (cnt_skip (P := fun p => isP sz p ∧ Q p) (a := 0) (Nat.zero_le _) (fun p _ b q => bd_0 h p b q.1)).symm
  | succ t ih =>
    intro ht
    have e := ih (by omega)
    rw [cnt_skip (a := (co t).toNat + 1) (bd_le h (by omega)) (fun p a b q => bd_gap h (by omega) p a b q.1)]
    rw [bdN_in (show t < np by omega)] at e
    by_cases q : Q (co t).toNat
    · rw [cnt_t (P := fun m => Q (co m).toNat) q, cnt_t (P := fun p => isP sz p ∧ Q p) ⟨(h.1 t (by omega)).2.2, q⟩, e]
    · rw [cnt_f (P := fun m => Q (co m).toNat) q, cnt_f (P := fun p => isP sz p ∧ Q p) (fun r => q r.2), e]
/-- how many points have a lesser beat; this beat, and are ahead -/
noncomputable def posZ (sz B : Nat → Int) (p : Nat) : Int := cnt (fun r => isP sz r ∧ B r < B p) 512 + cnt (fun r => isP sz r ∧ B r = B p) p
def SoOk (sz B : Nat → Int) (bt : Nat) (stt od : Nat → Int) : Prop := (∀ x : Nat, x ≤ bt → stt x = cnt (fun r => isP sz r ∧ B r < (x : Int)) 512) ∧ ∀ p : Nat, isP sz p → od (posZ sz B p).toNat = (p : Int)
theorem cnt_lt1 {sz B : Nat → Int} (b n : Nat) : cnt (fun r => isP sz r ∧ B r < ((b + 1 : Nat) : Int)) n = cnt (fun r => isP sz r ∧ B r < (b : Int)) n + cnt (fun r => isP sz r ∧ B r = (b : Int)) n := by
  refine cnt_dj (fun k _ => ⟨fun h => ?_, fun h => ?_⟩) (fun k _ h => ?_)
  · rcases Int.lt_or_le (B k) b with q | q
    · exact Or.inl ⟨h.1, q⟩
    · exact Or.inr ⟨h.1, by omega⟩
  · rcases h with h | h
    · exact ⟨h.1, by omega⟩
    · exact ⟨h.1, by omega⟩
  · omega
/-- the n-th place of the order is a point of beat b -/
theorem so_at {sz B : Nat → Int} {bt : Nat} {stt od : Nat → Int} (hs : SzOk sz) (h : SoOk sz B bt stt od) {b : Nat} (hb : b < bt) {n : Nat} (h1 : stt b ≤ (n : Int)) (h2 : (n : Int) < stt (b + 1)) : ∃ p : Nat, isP sz p ∧ B p = (b : Int) ∧ od n = (p : Int) ∧ cnt (fun r => isP sz r ∧ B r = (b : Int)) p = (n : Int) - stt b := by
  have e1 := h.1 b (by omega)
  have e2 := h.1 (b + 1) (by omega)
  rw [cnt_lt1, ← e1] at e2
  obtain ⟨p, a, ⟨c, d⟩, e⟩ := cnt_ex (P := fun r => isP sz r ∧ B r = (b : Int)) (N := 512) (k := (n : Int) - stt b) (by omega) (by omega)
  refine ⟨p, c, d, ?_, e⟩
  have g := h.2 p c
  have hp : posZ sz B p = (n : Int) := by
    unfold posZ
    rw [d, ← e1, e]
    omega
  rw [hp] at g
  exact g
/-- beat b: its points below t are worked -/
def inB (sz st ac lf rt ed B : Nat → Int) (nv b : Nat) (ar : Nat → Int) : Nat → Nat → Int
  | 0 => ar
  | t + 1 => if isP sz t ∧ B t = (b : Int) then wkA sz st ac lf rt ed (inB sz st ac lf rt ed B nv b ar t) t nv else inB sz st ac lf rt ed B nv b ar t
def outB (sz st ac lf rt ed B : Nat → Int) (nv : Nat) (ar : Nat → Int) : Nat → Nat → Int
  | 0 => ar
  | b + 1 => inB sz st ac lf rt ed B nv b (outB sz st ac lf rt ed B nv ar b) 512
theorem inB_p {sz st ac lf rt ed B ar : Nat → Int} {nv b t : Nat} (h : isP sz t ∧ B t = (b : Int)) : inB sz st ac lf rt ed B nv b ar (t + 1) = wkA sz st ac lf rt ed (inB sz st ac lf rt ed B nv b ar t) t nv := by
  show (if isP sz t ∧ B t = (b : Int) then _ else _) = _
  rw [if_pos h]
theorem inB_n {sz st ac lf rt ed B ar : Nat → Int} {nv b t : Nat} (h : ¬ (isP sz t ∧ B t = (b : Int))) : inB sz st ac lf rt ed B nv b ar (t + 1) = inB sz st ac lf rt ed B nv b ar t := by
  show (if isP sz t ∧ B t = (b : Int) then _ else _) = _
  rw [if_neg h]
theorem inB_skip {sz st ac lf rt ed B ar : Nat → Int} {nv b x y : Nat} (hxy : x ≤ y) (h : ∀ p : Nat, x ≤ p → p < y → ¬ (isP sz p ∧ B p = (b : Int))) : inB sz st ac lf rt ed B nv b ar y = inB sz st ac lf rt ed B nv b ar x := by
  induction y with
  | zero => rw [Nat.le_zero.mp hxy]
  | succ y ih =>
    rcases Nat.lt_or_ge y x with q | q
    · rw [show y + 1 = x by omega]
    · rw [inB_n (h y q (by omega)), ih q (fun p h1 h2 => h p h1 (by omega))]
theorem inB_eq {sz st ac lf rt ed B ar : Nat → Int} {nv b x y : Nat} (h : cnt (fun r => isP sz r ∧ B r = (b : Int)) x = cnt (fun r => isP sz r ∧ B r = (b : Int)) y) : inB sz st ac lf rt ed B nv b ar x = inB sz st ac lf rt ed B nv b ar y := by
  rcases Nat.le_total x y with q | q
  · exact (inB_skip q (fun p h1 h2 => cnt_no h p h1 h2)).symm
  · exact inB_skip q (fun p h1 h2 => cnt_no h.symm p h1 h2)
theorem inB_R {sz st ac lf rt ed B ar : Nat → Int} {nv b : Nat} (h1 : ∀ q : Nat, R32 (ed q)) (h2 : ∀ q : Nat, R32 (ar q)) : ∀ (t q : Nat), R32 (inB sz st ac lf rt ed B nv b ar t q) := by
  intro t
  induction t with
  | zero => exact h2
  | succ t ih =>
    intro q
    by_cases h : isP sz t ∧ B t = (b : Int)
    · rw [inB_p h]; exact wkA_R h1 ih nv q
    · rw [inB_n h]; exact ih q
theorem outB_R {sz st ac lf rt ed B ar : Nat → Int} {nv : Nat} (h1 : ∀ q : Nat, R32 (ed q)) (h2 : ∀ q : Nat, R32 (ar q)) : ∀ (b q : Nat), R32 (outB sz st ac lf rt ed B nv ar b q) := by
  intro b
  induction b with
  | zero => exact h2
  | succ b ih => exact fun q => inB_R h1 ih 512 q
/-- held: differences and sums -/
abbrev nxP (sz st : Nat → Int) (v p : Nat) : Prop := isP sz p ∧ stepZ sz st v p 1 ≠ -1
noncomputable def upC (sz st B : Nat → Int) (v : Nat) (x : Int) (n : Nat) : Int := cnt (fun p => nxP sz st v p ∧ B p = x) n
noncomputable def dnC (sz st B : Nat → Int) (v : Nat) (x : Int) (n : Nat) : Int := cnt (fun p => nxP sz st v p ∧ B (stepZ sz st v p 1).toNat = x) n
noncomputable def dsu (sz st B : Nat → Int) (x : Int) : Nat → Int
  | 0 => 0
  | v + 1 => dsu sz st B x v + (upC sz st B v x 512 - dnC sz st B v x 512)
abbrev heP (sz st B : Nat → Int) (v : Nat) (b : Int) (p : Nat) : Prop := nxP sz st v p ∧ B p ≤ b ∧ b < B (stepZ sz st v p 1).toNat
noncomputable def hsu (sz st B : Nat → Int) (b : Int) : Nat → Int
  | 0 => 0
  | v + 1 => hsu sz st B b v + cnt (heP sz st B v b) 512
def sumT (f : Nat → Int) : Nat → Int
  | 0 => f 0
  | b + 1 => sumT f b + f (b + 1)
theorem sumT_cnt {Q : Nat → Prop} {B : Nat → Int} (h0 : ∀ p : Nat, Q p → 0 ≤ B p) (n : Nat) : ∀ b : Nat, sumT (fun x => cnt (fun p => Q p ∧ B p = (x : Int)) n) b = cnt (fun p => Q p ∧ B p ≤ (b : Int)) n := by
  intro b
  induction b with
  | zero =>
    refine cnt_c (fun k _ => ⟨fun h => ⟨h.1, by omega⟩, fun h => ⟨h.1, ?_⟩⟩)
    have := h0 k h.1
    omega
  | succ b ih =>
    show sumT _ b + cnt (fun p => Q p ∧ B p = ((b + 1 : Nat) : Int)) n = _
    rw [ih]
    refine (cnt_dj (fun k _ => ⟨fun h => ?_, fun h => ?_⟩) (fun k _ h => ?_)).symm
    · rcases Int.lt_or_le (B k) ((b : Int) + 1) with q | q
      · exact Or.inl ⟨h.1, by omega⟩
      · exact Or.inr ⟨h.1, by omega⟩
    · rcases h with h | h
      · exact ⟨h.1, by omega⟩
      · exact ⟨h.1, by omega⟩
    · omega
theorem sumT_add (f g : Nat → Int) : ∀ b : Nat, sumT (fun x => f x + g x) b = sumT f b + sumT g b := by
  intro b
  induction b with
  | zero => rfl
  | succ b ih =>
    show sumT _ b + (f (b + 1) + g (b + 1)) = (sumT f b + f (b + 1)) + (sumT g b + g (b + 1))
    rw [ih]
    omega
theorem sumT_sub (f g : Nat → Int) : ∀ b : Nat, sumT (fun x => f x - g x) b = sumT f b - sumT g b := by
  intro b
  induction b with
  | zero => rfl
  | succ b ih =>
    show sumT _ b + (f (b + 1) - g (b + 1)) = (sumT f b + f (b + 1)) - (sumT g b + g (b + 1))
    rw [ih]
    omega
theorem sumT_0 : ∀ b : Nat, sumT (fun _ => 0) b = 0 := by
  intro b
  induction b with
  | zero => rfl
  | succ b ih => show sumT _ b + 0 = 0; rw [ih]; rfl
theorem held_eq {sz st B : Nat → Int} {nv : Nat} (hB : ∀ p : Nat, isP sz p → 0 ≤ B p) (hn : ∀ v p : Nat, v < nv → nxP sz st v p → isP sz (stepZ sz st v p 1).toNat ∧ B p < B (stepZ sz st v p 1).toNat) (b : Nat) : ∀ v : Nat, v ≤ nv → sumT (fun x => dsu sz st B (x : Int) v) b = hsu sz st B (b : Int) v := by
  intro v
  induction v with
  | zero => exact fun _ => sumT_0 b
  | succ v ih =>
    intro hv
    show sumT (fun x => dsu sz st B (x : Int) v + (upC sz st B v (x : Int) 512 - dnC sz st B v (x : Int) 512)) b = hsu sz st B (b : Int) v + cnt (heP sz st B v (b : Int)) 512
    rw [sumT_add, ih (by omega), sumT_sub]
    have e1 : sumT (fun x => upC sz st B v (x : Int) 512) b = cnt (fun p => nxP sz st v p ∧ B p ≤ (b : Int)) 512 := sumT_cnt (fun p h => hB p h.1) 512 b
    have e2 : sumT (fun x => dnC sz st B v (x : Int) 512) b = cnt (fun p => nxP sz st v p ∧ B (stepZ sz st v p 1).toNat ≤ (b : Int)) 512 := sumT_cnt (B := fun p => B (stepZ sz st v p 1).toNat) (fun p h => hB _ (hn v p (by omega) h).1) 512 b
    have e3 : cnt (fun p => nxP sz st v p ∧ B p ≤ (b : Int)) 512 = cnt (heP sz st B v (b : Int)) 512 + cnt (fun p => nxP sz st v p ∧ B (stepZ sz st v p 1).toNat ≤ (b : Int)) 512 := by
      refine cnt_dj (fun k _ => ⟨fun h => ?_, fun h => ?_⟩) (fun k _ h => ?_)
      · rcases Int.lt_or_le (b : Int) (B (stepZ sz st v k 1).toNat) with q | q
        · exact Or.inl ⟨h.1, h.2, q⟩
        · exact Or.inr ⟨h.1, q⟩
      · rcases h with h | h
        · exact ⟨h.1, h.2.1⟩
        · have := (hn v k (by omega) h.1).2
          exact ⟨h.1, by omega⟩
      · have := h.1.2.2
        have := h.2.2
        omega
    rw [e1, e2, e3]
    omega
/-- the counting sort, by the numbers of the points in their row -/
noncomputable abbrev cM (co : Nat → Int) (Q : Nat → Prop) (n : Nat) : Int := cnt (fun m => Q (co m).toNat) n
noncomputable def pmZ (co B : Nat → Int) (np m : Nat) : Int := cM co (fun p => B p < B (co m).toNat) np + cM co (fun p => B p = B (co m).toNat) m
theorem pm_lt {co B : Nat → Int} {np m : Nat} (hm : m < np) : 0 ≤ pmZ co B np m ∧ pmZ co B np m < np := by
  simp only [pmZ, cM]
  have a := cnt_b (fun j => B (co j).toNat < B (co m).toNat) np
  have b := cnt_b (fun j => B (co j).toNat = B (co m).toNat) m
  have c := cnt_lt (P := fun j => B (co j).toNat = B (co m).toNat) hm rfl
  have d := cnt_dj (P := fun j => B (co j).toNat < B (co m).toNat) (Q := fun j => B (co j).toNat = B (co m).toNat) (S := fun j => B (co j).toNat ≤ B (co m).toNat) (n := np) (fun k _ => by constructor <;> intro h <;> omega) (fun k _ h => by omega)
  have e := cnt_b (fun j => B (co j).toNat ≤ B (co m).toNat) np
  omega
theorem pm_ne {co B : Nat → Int} {np m j : Nat} (hm : m < np) (hj : j < np) (hne : m ≠ j) : pmZ co B np m ≠ pmZ co B np j := by
  have key : ∀ {m j : Nat}, m < np → j < np → B (co m).toNat < B (co j).toNat → pmZ co B np m < pmZ co B np j := by
    intro m j hm hj h
    simp only [pmZ, cM]
    have c := cnt_lt (P := fun i => B (co i).toNat = B (co m).toNat) hm rfl
    have d := cnt_dj (P := fun i => B (co i).toNat < B (co m).toNat) (Q := fun i => B (co i).toNat = B (co m).toNat) (S := fun i => B (co i).toNat ≤ B (co m).toNat) (n := np) (fun k _ => by constructor <;> intro h <;> omega) (fun k _ h => by omega)
    have f := cnt_dj (P := fun i => B (co i).toNat ≤ B (co m).toNat) (Q := fun i => B (co m).toNat < B (co i).toNat ∧ B (co i).toNat < B (co j).toNat) (S := fun i => B (co i).toNat < B (co j).toNat) (n := np) (fun k _ => by constructor <;> intro h <;> omega) (fun k _ h => by omega)
    have e := cnt_b (fun i => B (co m).toNat < B (co i).toNat ∧ B (co i).toNat < B (co j).toNat) np
    have g := cnt_b (fun i => B (co i).toNat = B (co j).toNat) j
    omega
  have same : ∀ {m j : Nat}, m < j → B (co m).toNat = B (co j).toNat → pmZ co B np m < pmZ co B np j := by
    intro m j hmj h
    simp only [pmZ, cM]
    rw [h]
    have c := cnt_lt (P := fun i => B (co i).toNat = B (co j).toNat) hmj h
    omega
  rcases Int.lt_trichotomy (B (co m).toNat) (B (co j).toNat) with q | q | q
  · have := key hm hj q
    omega
  · rcases Nat.lt_or_gt_of_ne hne with r | r
    · have := same r q
      omega
    · have := same r q.symm
      omega
  · have := key hj hm q
    omega
theorem so_end {sz co B : Nat → Int} {np bt : Nat} {stt od : Nat → Int} (h : CdOk sz co np) (hs : SzOk sz) (h1 : ∀ x : Nat, x ≤ bt → stt x = cM co (fun p => B p < (x : Int)) np + cM co (fun p => B p = (x : Int)) 0) (h2 : ∀ m : Nat, m < np → od (pmZ co B np m).toNat = (((co m).toNat : Nat) : Int)) : SoOk sz B bt stt od := by
  refine ⟨fun x hx => ?_, fun p hp => ?_⟩
  · rw [h1 x hx]
    have e := cnt_co h (fun p => B p < (x : Int)) np (Nat.le_refl _)
    rw [bdN_out (Nat.le_refl np)] at e
    show cM co _ np + 0 = _
    rw [Int.add_zero]
    exact e
  · obtain ⟨m, hm, e⟩ := h.2.2.1 p (isP_lt hs hp) hp
    have g := h2 m hm
    have e1 := cnt_co h (fun q => B q < B p) np (Nat.le_refl _)
    rw [bdN_out (Nat.le_refl np)] at e1
    have e2 := cnt_co h (fun q => B q = B p) m (Nat.le_of_lt hm)
    rw [bdN_in hm, e] at e2
    have : pmZ co B np m = posZ sz B p := by
      unfold pmZ posZ cM
      rw [e, e1, e2]
    rw [this, e] at g
    exact g
theorem cM_b (co : Nat → Int) (Q : Nat → Prop) (n : Nat) : 0 ≤ cM co Q n ∧ cM co Q n ≤ n := cnt_b _ n
/-- one more is counted -/
theorem so_c1 {co B stt : Nat → Int} {t bi : Nat} (hb : B (co t).toNat = (bi : Int)) (h : ∀ x : Nat, x ≤ 512 → stt x = cM co (fun p => B p = (x : Int)) t) : ∀ x : Nat, x ≤ 512 → up1 stt bi (stt bi + 1) x = cM co (fun p => B p = (x : Int)) (t + 1) := by
  intro x hx
  by_cases e : x = bi
  · subst e
    rw [up1_s, h x hx]
    exact (cnt_t (P := fun m => B (co m).toNat = (x : Int)) hb).symm
  · rw [up1_n e, h x hx]
    exact (cnt_f (P := fun m => B (co m).toNat = (x : Int)) (fun q => e (by omega))).symm
theorem so_c2 {co B stt : Nat → Int} {np b : Nat} (hb1 : 1 ≤ b) (hb : b ≤ 512) (h1 : ∀ x : Nat, x < b → stt x = cM co (fun p => B p < (x : Int)) np + cM co (fun p => B p = (x : Int)) np) (h2 : ∀ x : Nat, b ≤ x → x ≤ 512 → stt x = cM co (fun p => B p = (x : Int)) np) : (∀ x : Nat, x < b + 1 → up1 stt b (stt b + stt (b - 1)) x = cM co (fun p => B p < (x : Int)) np + cM co (fun p => B p = (x : Int)) np) ∧ (∀ x : Nat, b + 1 ≤ x → x ≤ 512 → up1 stt b (stt b + stt (b - 1)) x = cM co (fun p => B p = (x : Int)) np) := by
  refine ⟨fun x hx => ?_, fun x hx hx2 => ?_⟩
  · by_cases e : x = b
    · subst e
      rw [up1_s, h2 x (Nat.le_refl _) hb, h1 (x - 1) (by omega)]
      have d := cnt_dj (P := fun i => B (co i).toNat < ((x - 1 : Nat) : Int)) (Q := fun i => B (co i).toNat = ((x - 1 : Nat) : Int)) (S := fun i => B (co i).toNat < (x : Int)) (n := np) (fun k _ => by constructor <;> intro h <;> omega) (fun k _ h => by omega)
      simp only [cM]
      omega
    · rw [up1_n e]
      exact h1 x (by omega)
  · rw [up1_n (by omega)]
    exact h2 x (by omega) hx2
theorem so_c3 {co B stt od : Nat → Int} {np bt t bi : Nat} (ht : 1 ≤ t) (htn : t ≤ np) (hb : B (co (t - 1)).toNat = (bi : Int)) (hbt : bi < bt) (h1 : ∀ x : Nat, x ≤ bt → stt x = cM co (fun p => B p < (x : Int)) np + cM co (fun p => B p = (x : Int)) t) (h2 : ∀ m : Nat, t ≤ m → m < np → od (pmZ co B np m).toNat = (((co m).toNat : Nat) : Int)) : stt bi - 1 = pmZ co B np (t - 1) ∧ (∀ x : Nat, x ≤ bt → up1 stt bi (stt bi - 1) x = cM co (fun p => B p < (x : Int)) np + cM co (fun p => B p = (x : Int)) (t - 1)) ∧ (∀ m : Nat, t - 1 ≤ m → m < np → up1 od (stt bi - 1).toNat (((co (t - 1)).toNat : Nat) : Int) (pmZ co B np m).toNat = (((co m).toNat : Nat) : Int)) := by
  have e1 := h1 bi (by omega)
  have c1 : cM co (fun p => B p = (bi : Int)) t = cM co (fun p => B p = (bi : Int)) (t - 1) + 1 := by
    have := cnt_t (P := fun m => B (co m).toNat = (bi : Int)) (n := t - 1) hb
    rw [show t - 1 + 1 = t by omega] at this
    exact this
  have hpos : stt bi - 1 = pmZ co B np (t - 1) := by
    unfold pmZ
    rw [hb, e1, c1]
    omega
  refine ⟨hpos, fun x hx => ?_, fun m hm1 hm2 => ?_⟩
  · by_cases e : x = bi
    · subst e
      rw [up1_s, e1, c1]
      omega
    · rw [up1_n e, h1 x hx]
      have := cnt_f (P := fun m => B (co m).toNat = (x : Int)) (n := t - 1) (fun q => e (by omega))
      rw [show t - 1 + 1 = t by omega] at this
      show cM co _ np + cnt _ t = _
      rw [this]
  · rw [hpos]
    by_cases e : m = t - 1
    · subst e
      rw [up1_s]
    · have hne := pm_ne (co := co) (B := B) hm2 (show t - 1 < np by omega) e
      have a := pm_lt (co := co) (B := B) hm2
      have b := pm_lt (co := co) (B := B) (show t - 1 < np by omega)
      rw [up1_n (by omega)]
      exact h2 m (by omega) hm2
/-- held: one more point -/
theorem he_c1 {sz st co B he : Nat → Int} {np t v bi bj : Nat} (h : CdOk sz co np) (ht : t < np) (hn : stepZ sz st v (co t).toNat 1 ≠ -1) (hb : B (co t).toNat = (bi : Int)) (hj : B (stepZ sz st v (co t).toNat 1).toNat = (bj : Int)) (hi : ∀ x : Nat, x ≤ 512 → he x = dsu sz st B (x : Int) v + upC sz st B v (x : Int) (bdN co np t) - dnC sz st B v (x : Int) (bdN co np t)) : ∀ x : Nat, x ≤ 512 → up1 (up1 he bi (he bi + 1)) bj (up1 he bi (he bi + 1) bj - 1) x = dsu sz st B (x : Int) v + upC sz st B v (x : Int) (bdN co np (t + 1)) - dnC sz st B v (x : Int) (bdN co np (t + 1)) := by
  intro x hx
  have hp := (h.1 t ht).2.2
  have u1 : upC sz st B v (x : Int) (bdN co np (t + 1)) = upC sz st B v (x : Int) (bdN co np t) + b2i (x = bi) := by
    unfold upC
    rw [cnt_skip (a := (co t).toNat + 1) (bd_le h ht) (fun p a b q => bd_gap h ht p a b q.1.1), bdN_in ht]
    by_cases e : x = bi
    · rw [b2i_t e]
      exact cnt_t (P := fun p => nxP sz st v p ∧ B p = (x : Int)) ⟨⟨hp, hn⟩, by rw [hb, e]⟩
    · rw [b2i_f e, Int.add_zero]
      exact cnt_f (P := fun p => nxP sz st v p ∧ B p = (x : Int)) (fun q => e (by have := q.2; omega))
  have d1 : dnC sz st B v (x : Int) (bdN co np (t + 1)) = dnC sz st B v (x : Int) (bdN co np t) + b2i (x = bj) := by
    unfold dnC
    rw [cnt_skip (a := (co t).toNat + 1) (bd_le h ht) (fun p a b q => bd_gap h ht p a b q.1.1), bdN_in ht]
    by_cases e : x = bj
    · rw [b2i_t e]
      exact cnt_t (P := fun p => nxP sz st v p ∧ B (stepZ sz st v p 1).toNat = (x : Int)) ⟨⟨hp, hn⟩, by rw [hj, e]⟩
    · rw [b2i_f e, Int.add_zero]
      exact cnt_f (P := fun p => nxP sz st v p ∧ B (stepZ sz st v p 1).toNat = (x : Int)) (fun q => e (by have := q.2; omega))
  have e0 := hi x hx
  have e1 : up1 he bi (he bi + 1) x = he x + b2i (x = bi) := by
    by_cases e : x = bi
    · subst e; rw [up1_s, b2i_t rfl]
    · rw [up1_n e, b2i_f e, Int.add_zero]
  have e2 : up1 (up1 he bi (he bi + 1)) bj (up1 he bi (he bi + 1) bj - 1) x = up1 he bi (he bi + 1) x - b2i (x = bj) := by
    by_cases e : x = bj
    · subst e; rw [up1_s, b2i_t rfl]
    · rw [up1_n e, b2i_f e, Int.sub_zero]
  rw [e2, e1, u1, d1]
  omega
theorem he_c2 {sz st co B he : Nat → Int} {np t v : Nat} (h : CdOk sz co np) (ht : t < np) (hn : stepZ sz st v (co t).toNat 1 = -1) (hi : ∀ x : Nat, x ≤ 512 → he x = dsu sz st B (x : Int) v + upC sz st B v (x : Int) (bdN co np t) - dnC sz st B v (x : Int) (bdN co np t)) : ∀ x : Nat, x ≤ 512 → he x = dsu sz st B (x : Int) v + upC sz st B v (x : Int) (bdN co np (t + 1)) - dnC sz st B v (x : Int) (bdN co np (t + 1)) := by
  intro x hx
  have u1 : upC sz st B v (x : Int) (bdN co np (t + 1)) = upC sz st B v (x : Int) (bdN co np t) := by
    unfold upC
    rw [cnt_skip (a := (co t).toNat + 1) (bd_le h ht) (fun p a b q => bd_gap h ht p a b q.1.1), bdN_in ht]
    exact cnt_f (P := fun p => nxP sz st v p ∧ B p = (x : Int)) (fun q => q.1.2 hn)
  have d1 : dnC sz st B v (x : Int) (bdN co np (t + 1)) = dnC sz st B v (x : Int) (bdN co np t) := by
    unfold dnC
    rw [cnt_skip (a := (co t).toNat + 1) (bd_le h ht) (fun p a b q => bd_gap h ht p a b q.1.1), bdN_in ht]
    exact cnt_f (P := fun p => nxP sz st v p ∧ B (stepZ sz st v p 1).toNat = (x : Int)) (fun q => q.1.2 hn)
  rw [u1, d1]
  exact hi x hx
theorem he_0 {sz st co B : Nat → Int} {np v : Nat} {x : Int} (h : CdOk sz co np) : upC sz st B v x (bdN co np 0) = 0 ∧ dnC sz st B v x (bdN co np 0) = 0 := ⟨cnt_skip (a := 0) (Nat.zero_le _) (fun p _ b q => bd_0 h p b q.1.1), cnt_skip (a := 0) (Nat.zero_le _) (fun p _ b q => bd_0 h p b q.1.1)⟩
