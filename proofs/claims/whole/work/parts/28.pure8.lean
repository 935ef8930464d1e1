/-! meetings by differences; the reference's searches -/
def mzP (nu : Nat → Int) (i j l : Int) : Prop := (i ≠ 0 ∨ j ≠ 0 ∨ l ≠ 0) ∧ nu 0 * i + nu 1 * j + nu 2 * l = 0 ∧ nu 3 * i + nu 4 * j + nu 5 * l = 0 ∧ nu 6 * i + nu 7 * j + nu 8 * l = 0
def metZ (nu sz : Nat → Int) : Prop := ∃ i j l : Int, 0 ≤ i ∧ i < sz 0 ∧ 1 - sz 1 ≤ j ∧ j < sz 1 ∧ 1 - sz 2 ≤ l ∧ l < sz 2 ∧ mzP nu i j l
theorem mulb7 {a b : Int} (h1 : -3 ≤ a) (h2 : a ≤ 3) (h3 : -7 ≤ b) (h4 : b ≤ 7) : -21 ≤ a * b ∧ a * b ≤ 21 := by
  rcases (show a = -3 ∨ a = -2 ∨ a = -1 ∨ a = 0 ∨ a = 1 ∨ a = 2 ∨ a = 3 by omega) with rfl | rfl | rfl | rfl | rfl | rfl | rfl <;> omega
/-- the first from t on -/
def isFsF (P : Nat → Prop) (t n : Nat) (z : Int) : Prop := (z = -1 ∧ ∀ v : Nat, t ≤ v → v < n → ¬ P v) ∨ ∃ v : Nat, z = (v : Int) ∧ t ≤ v ∧ v < n ∧ P v ∧ ∀ u : Nat, t ≤ u → u < v → ¬ P u
theorem isFsF_end {P : Nat → Prop} {n : Nat} {z : Int} (h : isFsF P 0 n z) : isFst P n z := by
  rcases h with ⟨e, f⟩ | ⟨v, a, b, c, d, e⟩
  · exact Or.inl ⟨e, fun v hv => f v (Nat.zero_le _) hv⟩
  · exact Or.inr ⟨v, a, c, d, fun u hu => e u (Nat.zero_le _) hu⟩
theorem isFsF_t {P : Nat → Prop} {t n : Nat} (h1 : 1 ≤ t) (h2 : t ≤ n) (p : P (t - 1)) : isFsF P (t - 1) n ((t - 1 : Nat) : Int) := Or.inr ⟨t - 1, rfl, Nat.le_refl _, by omega, p, fun u h3 h4 => by omega⟩
theorem isFsF_f {P : Nat → Prop} {t n : Nat} {z : Int} (h1 : 1 ≤ t) (p : ¬ P (t - 1)) (h : isFsF P t n z) : isFsF P (t - 1) n z := by
  have key : ∀ u : Nat, t - 1 ≤ u → t ≤ u ∨ u = t - 1 := fun u hu => by omega
  rcases h with ⟨e, f⟩ | ⟨v, a, b, c, d, e⟩
  · refine Or.inl ⟨e, fun v hv1 hv2 => ?_⟩
    rcases key v hv1 with q | q
    · exact f v q hv2
    · rw [q]; exact p
  · refine Or.inr ⟨v, a, by omega, c, d, fun u hu1 hu2 => ?_⟩
    rcases key u hu1 with q | q
    · exact e u q hu2
    · rw [q]; exact p
theorem isFsF_0 {P : Nat → Prop} {n : Nat} : isFsF P n n (-1) := Or.inl ⟨rfl, fun v h1 h2 => by omega⟩
theorem isFsF_R {P : Nat → Prop} {t n : Nat} {z : Int} (h : isFsF P t n z) : -1 ≤ z ∧ z < n + 1 := by
  rcases h with ⟨e, -⟩ | ⟨v, e, -, b, -⟩ <;> omega
def rigP (nu sz st : Nat → Int) (nv : Nat) : Prop := (∀ v : Nat, v < nv → ¬ earP nu sz st v) ∧ (∀ v : Nat, v < nv → ¬ farP nu sz st v) ∧ ¬ metZ nu sz
theorem isFst_neg {P : Nat → Prop} {n : Nat} {z : Int} (h : isFst P n z) : (z < 0 ↔ ∀ v : Nat, v < n → ¬ P v) := by
  rcases h with ⟨e, f⟩ | ⟨v, a, b, c, d⟩
  · exact ⟨fun _ => f, fun _ => by omega⟩
  · exact ⟨fun h => by omega, fun h => absurd c (h v b)⟩
/-- the greatest of a row, 0 at least -/
def mxR (sz B : Nat → Int) (t : Nat) (x : Int) : Prop := 0 ≤ x ∧ (∀ p : Nat, p < t → isP sz p → B p ≤ x) ∧ (x = 0 ∨ ∃ p : Nat, p < t ∧ isP sz p ∧ B p = x)
theorem mxR_skip {sz B : Nat → Int} {t : Nat} {x : Int} (h : mxR sz B t x) (q : ¬ isP sz t) : mxR sz B (t + 1) x := by
  obtain ⟨a, b, c⟩ := h
  refine ⟨a, fun p hp hq => ?_, ?_⟩
  · rcases Nat.lt_succ_iff_lt_or_eq.mp hp with r | r
    · exact b p r hq
    · rw [r] at hq; exact absurd hq q
  · rcases c with c | ⟨p, d, e⟩
    · exact Or.inl c
    · exact Or.inr ⟨p, by omega, e⟩
theorem mxR_up {sz B : Nat → Int} {t : Nat} {x : Int} (h : mxR sz B t x) (q : isP sz t) (g : x < B t) : mxR sz B (t + 1) (B t) := by
  obtain ⟨a, b, c⟩ := h
  refine ⟨by omega, fun p hp hq => ?_, Or.inr ⟨t, by omega, q, rfl⟩⟩
  rcases Nat.lt_succ_iff_lt_or_eq.mp hp with r | r
  · have := b p r hq; omega
  · rw [r]; exact Int.le_refl _
theorem mxR_keep {sz B : Nat → Int} {t : Nat} {x : Int} (h : mxR sz B t x) (g : B t ≤ x) : mxR sz B (t + 1) x := by
  obtain ⟨a, b, c⟩ := h
  refine ⟨a, fun p hp hq => ?_, ?_⟩
  · rcases Nat.lt_succ_iff_lt_or_eq.mp hp with r | r
    · exact b p r hq
    · rw [r]; exact g
  · rcases c with c | ⟨p, d, e⟩
    · exact Or.inl c
    · exact Or.inr ⟨p, by omega, e⟩
theorem mxR_0 {sz B : Nat → Int} : mxR sz B 0 0 := ⟨Int.le_refl _, fun p h => absurd h (Nat.not_lt_zero _), Or.inl rfl⟩
theorem mxR_end {sz B : Nat → Int} {x : Int} (hs : SzOk sz) (h0 : ∀ p : Nat, isP sz p → 0 ≤ B p) (h : mxR sz B 512 x) : beaR sz B 512 (x + 1) := by
  obtain ⟨a, b, c⟩ := h
  refine ⟨fun p hp hq => by have := b p hp hq; omega, Or.inr ?_⟩
  rcases c with c | ⟨p, d, e, f⟩
  · have h1 := b 0 (by omega) (isP_0 hs)
    have h2 := h0 0 (isP_0 hs)
    exact ⟨0, by omega, isP_0 hs, by omega⟩
  · exact ⟨p, d, e, by omega⟩
theorem mxR_b {sz B : Nat → Int} {t : Nat} {x : Int} (h0 : ∀ p : Nat, isP sz p → 0 ≤ B p ∧ B p < 512) (h : mxR sz B t x) : 0 ≤ x ∧ x < 512 := by
  obtain ⟨a, b, c⟩ := h
  rcases c with c | ⟨p, d, e, f⟩
  · omega
  · have := h0 p e; omega
/-- which keys the points below t have -/
def kyR (sz K ic : Nat → Int) (t : Nat) : Prop := ∀ j : Nat, (ic j = 0 ∨ ic j = 1) ∧ (ic j = 1 ↔ ∃ q : Nat, q < t ∧ isP sz q ∧ K q = (j : Int))
theorem kyR_skip {sz K ic : Nat → Int} {t : Nat} (h : kyR sz K ic t) (q : ¬ isP sz t) : kyR sz K ic (t + 1) := fun j => ⟨(h j).1, (h j).2.trans ⟨fun ⟨p, a, b⟩ => ⟨p, by omega, b⟩, fun ⟨p, a, b, c⟩ => ⟨p, by
  rcases Nat.lt_succ_iff_lt_or_eq.mp a with r | r
  · exact r
  · rw [r] at b; exact absurd b q, b, c⟩⟩⟩
theorem kyR_add {sz K ic : Nat → Int} {t kk : Nat} (h : kyR sz K ic t) (q : isP sz t) (hk : K t = (kk : Int)) : kyR sz K (up1 ic kk 1) (t + 1) := by
  intro j
  by_cases e : j = kk
  · subst e
    rw [up1_s]
    exact ⟨Or.inr rfl, ⟨fun _ => ⟨t, by omega, q, hk⟩, fun _ => rfl⟩⟩
  · rw [up1_n e]
    refine ⟨(h j).1, (h j).2.trans ⟨fun ⟨p, a, b⟩ => ⟨p, by omega, b⟩, fun ⟨p, a, b, c⟩ => ⟨p, ?_, b, c⟩⟩⟩
    rcases Nat.lt_succ_iff_lt_or_eq.mp a with r | r
    · exact r
    · rw [r, hk] at c; omega
theorem dif_skip {sz K : Nat → Int} {t : Nat} (q : ¬ isP sz t) : difK sz K (t + 1) = difK sz K t := cnt_f (fun r => q r.1)
theorem dif_add {sz K ic : Nat → Int} {t kk : Nat} (h : kyR sz K ic t) (q : isP sz t) (hk : K t = (kk : Int)) : difK sz K (t + 1) = difK sz K t + b2i (ic kk = 0) := by
  by_cases e : ic kk = 0
  · rw [b2i_t e]
    refine cnt_t ⟨q, fun p hp hq he => ?_⟩
    have := (h kk).2.mpr ⟨p, hp, hq, by rw [he, hk]⟩
    omega
  · rw [b2i_f e, Int.add_zero]
    refine cnt_f (fun r => ?_)
    obtain ⟨p, a, b, c⟩ := (h kk).2.mp (by have := (h kk).1; omega)
    exact r.2 p a b (by rw [c, hk])
theorem dif_b (sz K : Nat → Int) (t : Nat) : 0 ≤ difK sz K t ∧ difK sz K t ≤ t := cnt_b _ t
/-- which distances two points have, the later below t, or t itself and the other below u -/
def dtR (sz K B ia : Nat → Int) (t u : Nat) : Prop := ∀ d : Nat, (ia d = 0 ∨ ia d = 1) ∧ (ia d = 1 ↔ dsP sz K B t d ∨ ∃ q : Nat, q < u ∧ q < t ∧ False ∨ (q < u ∧ isP sz q ∧ isP sz t ∧ K q = K t ∧ aZ (B t - B q) = (d : Int)))
theorem dtR_u {sz K B ia : Nat → Int} {t u : Nat} (h : dtR sz K B ia t u) (q : ¬ (isP sz u ∧ isP sz t ∧ K u = K t)) : dtR sz K B ia t (u + 1) := by
  intro d
  refine ⟨(h d).1, (h d).2.trans (or_congr Iff.rfl ⟨?_, ?_⟩)⟩
  · rintro ⟨r, ⟨-, -, f⟩ | ⟨a, b⟩⟩
    · exact f.elim
    · exact ⟨r, Or.inr ⟨by omega, b⟩⟩
  · rintro ⟨r, ⟨-, -, f⟩ | ⟨a, b, c, e, f⟩⟩
    · exact f.elim
    · rcases Nat.lt_succ_iff_lt_or_eq.mp a with g | g
      · exact ⟨r, Or.inr ⟨g, b, c, e, f⟩⟩
      · rw [g] at b e; exact absurd ⟨b, c, e⟩ q
theorem dtR_a {sz K B ia : Nat → Int} {t u dd : Nat} (h : dtR sz K B ia t u) (q1 : isP sz u) (q2 : isP sz t) (q3 : K u = K t) (hd : aZ (B t - B u) = (dd : Int)) : dtR sz K B (up1 ia dd 1) t (u + 1) := by
  intro d
  by_cases e : d = dd
  · subst e
    rw [up1_s]
    exact ⟨Or.inr rfl, ⟨fun _ => Or.inr ⟨u, Or.inr ⟨by omega, q1, q2, q3, hd⟩⟩, fun _ => rfl⟩⟩
  · rw [up1_n e]
    refine ⟨(h d).1, (h d).2.trans (or_congr Iff.rfl ⟨?_, ?_⟩)⟩
    · rintro ⟨r, ⟨-, -, f⟩ | ⟨a, b⟩⟩
      · exact f.elim
      · exact ⟨r, Or.inr ⟨by omega, b⟩⟩
    · rintro ⟨r, ⟨-, -, f⟩ | ⟨a, b, c, g, f⟩⟩
      · exact f.elim
      · rcases Nat.lt_succ_iff_lt_or_eq.mp a with i | i
        · exact ⟨r, Or.inr ⟨i, b, c, g, f⟩⟩
        · rw [i] at f; omega
theorem dtR_t {sz K B ia : Nat → Int} {t u : Nat} (h : dtR sz K B ia t u) (hu : u = t ∨ ¬ isP sz t) : dtR sz K B ia (t + 1) 0 := by
  intro d
  refine ⟨(h d).1, (h d).2.trans ⟨?_, ?_⟩⟩
  · rintro (⟨p, q, a, b, c, e, f, g⟩ | ⟨r, ⟨-, -, f⟩ | ⟨a, b, c, e, f⟩⟩)
    · exact Or.inl ⟨p, q, by omega, b, c, e, f, g⟩
    · exact f.elim
    · rcases hu with hu | hu
      · exact Or.inl ⟨t, r, by omega, by omega, b, c, e, f⟩
      · exact absurd c hu
  · rintro (⟨p, q, a, b, c, e, f, g⟩ | ⟨r, ⟨-, -, f⟩ | ⟨a, -⟩⟩)
    · rcases Nat.lt_succ_iff_lt_or_eq.mp a with i | i
      · exact Or.inl ⟨p, q, i, b, c, e, f, g⟩
      · rcases hu with hu | hu
        · rw [i] at b e f g
          exact Or.inr ⟨q, Or.inr ⟨by omega, c, e, f, g⟩⟩
        · rw [i] at e; exact absurd e hu
    · exact f.elim
    · omega
theorem dtR_0 {sz K B ia : Nat → Int} (h : ∀ d : Nat, ia d = 0) : dtR sz K B ia 0 0 := fun d => ⟨Or.inl (h d), ⟨fun e => by have := h d; omega, fun e => by
  rcases e with ⟨p, q, a, -⟩ | ⟨r, ⟨-, -, f⟩ | ⟨a, -⟩⟩
  · omega
  · exact f.elim
  · omega⟩⟩
theorem dtR_end {sz K B ia : Nat → Int} {t : Nat} (h : dtR sz K B ia t 0) : ∀ d : Nat, (ia d = 0 ∨ ia d = 1) ∧ (ia d = 1 ↔ dsP sz K B t d) := fun d => ⟨(h d).1, (h d).2.trans ⟨fun e => by
  rcases e with e | ⟨r, ⟨-, -, f⟩ | ⟨a, -⟩⟩
  · exact e
  · exact f.elim
  · omega, Or.inl⟩⟩
/-- fold takes no two places to one -/
theorem fold_in {f a b c d : Int} (h1 : 1 ≤ f) (h2 : f ≤ 8) (hc : 0 ≤ c) (hd : 0 ≤ d) : (f * a + c % f = f * b + d % f ∧ c / f = d / f) ↔ a = b ∧ c = d := by
  rcases (show f = 1 ∨ f = 2 ∨ f = 3 ∨ f = 4 ∨ f = 5 ∨ f = 6 ∨ f = 7 ∨ f = 8 by omega) with rfl | rfl | rfl | rfl | rfl | rfl | rfl | rfl <;> constructor <;> intro h <;> omega
abbrev saP (nu sz : Nat → Int) (q p : Nat) : Prop := isP sz q ∧ atZ nu sz 0 q = atZ nu sz 0 p ∧ atZ nu sz 1 q = atZ nu sz 1 p ∧ atZ nu sz 2 q = atZ nu sz 2 p
theorem mt_sa {nu sz : Nat → Int} {f : Int} {q p : Nat} (hn : NuOk nu) (hs : SzOk sz) (h1 : 1 ≤ f) (h2 : f ≤ 8) (hp : isP sz p) : mtP sz (keyZ nu sz f) (beatZ nu sz f) q p ↔ q < p ∧ saP nu sz q p := by
  unfold mtP keyZ beatZ cellZ
  have p1 := atZ_b (h := 1) hn hs (by omega) hp
  have p2 := atZ_b (h := 2) hn hs (by omega) hp
  constructor
  · rintro ⟨a, b, -, c, d⟩
    have q1 := atZ_b (h := 1) hn hs (by omega) b
    have q2 := atZ_b (h := 2) hn hs (by omega) b
    have e := (fold_in h1 h2 q1.1 p1.1).mp ⟨d, by omega⟩
    refine ⟨a, b, e.1, e.2, ?_⟩
    rw [e.2] at c
    omega
  · rintro ⟨a, b, c, d, e⟩
    exact ⟨a, b, hp, by rw [d, e], by rw [c, d]⟩
theorem dv_s {ia : Nat → Int} {u n : Nat} {s s' : Int} (h : s = 1 ↔ ∃ j : Nat, 1 ≤ j ∧ j < u ∧ j * n < 1024 ∧ ia (j * n) = 1) (hu : 1 ≤ u ∧ u * n < 1024) (hs : s' = 1 ↔ s = 1 ∨ ia (u * n) = 1) : s' = 1 ↔ ∃ j : Nat, 1 ≤ j ∧ j < u + 1 ∧ j * n < 1024 ∧ ia (j * n) = 1 := by
  rw [hs, h]
  constructor
  · rintro (⟨j, a, b, c, d⟩ | e)
    · exact ⟨j, a, by omega, c, d⟩
    · exact ⟨u, hu.1, by omega, hu.2, e⟩
  · rintro ⟨j, a, b, c, d⟩
    rcases Nat.lt_succ_iff_lt_or_eq.mp b with e | e
    · exact Or.inl ⟨j, a, e, c, d⟩
    · rw [e] at d; exact Or.inr d
def dvQ (ia : Nat → Int) (n : Nat) (z : Int) : Prop := z = 1 ↔ ∃ u : Nat, 1 ≤ u ∧ u * n < 1024 ∧ ia (u * n) = 1
theorem dv_t {ia : Nat → Int} {D : Nat → Prop} {n : Nat} {z : Int} (h : dvQ ia n z) (hz : z = 1) (hde : ∀ d : Nat, (ia d = 0 ∨ ia d = 1) ∧ (ia d = 1 ↔ D d)) (hds : ∀ d : Nat, D d → (d : Int) < 512) (hn : 1 ≤ n) : (∃ j : Nat, 1 ≤ j ∧ D (j * n)) ∧ (1 ≤ n + 1 ∧ n + 1 ≤ 512) := by
  obtain ⟨u, a, b, c⟩ := h.mp hz
  have d := (hde _).2.mp c
  have e := hds _ d
  have f : n ≤ u * n := Nat.le_mul_of_pos_left n a
  exact ⟨⟨u, a, d⟩, by omega, by omega⟩
theorem dv_f {ia : Nat → Int} {D : Nat → Prop} {n : Nat} {z : Int} (h : dvQ ia n z) (hz : z ≠ 1) (hde : ∀ d : Nat, (ia d = 0 ∨ ia d = 1) ∧ (ia d = 1 ↔ D d)) (hds : ∀ d : Nat, D d → (d : Int) < 512) : ∀ j : Nat, 1 ≤ j → ¬ D (j * n) := by
  intro j a b
  have e := hds _ b
  exact hz (h.mpr ⟨j, a, by omega, (hde _).2.mpr b⟩)
