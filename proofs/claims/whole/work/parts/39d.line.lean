/-! CELLS ALONG ONE LINE -/
/-- the bits a + 2 b with a up to A, b up to B -/
def tv (A B : Nat) : Nat := if A = 0 then (4 ^ (B + 1) - 1) / 3 else 2 ^ (A + 2 * B + 1) - 1
def TL (A B : Nat) : Int64 := Int64.ofNat (tv A B)
def fm (A B : Nat) : Nat := if A = 0 then B + 1 else A + 2 * B + 1
def adA (e : Int) (m : Nat) : Nat := if e = 1 then m else 0
def adB (e : Int) (m : Nat) : Nat := if e = 2 then m else 0
abbrev ush (x : Int64) (y : Int32) : Int64 := (x.toUInt64 >>> (y.toInt64.toUInt64 &&& Int64.toUInt64 63)).toInt64
abbrev bc1 (x : Int64) : Int64 := x - (ush x (iZ 1) &&& 6148914691236517205)
abbrev bc2 (x : Int64) : Int64 := (x &&& 3689348814741910323) + (ush x (iZ 2) &&& 3689348814741910323)
abbrev bc3 (x : Int64) : Int64 := (x + ush x (iZ 4)) &&& 1085102592571150095
abbrev bc4 (x : Int64) (n : Int) : Int64 := x + ush x (iZ n)
abbrev bc5 (x : Int64) : Int32 := (x.toInt32) &&& iZ 127
theorem tl_s0 : ∀ A, A < 22 → ∀ B, B < 22 → A + B < 22 → TL A B ||| (TL A B <<< ((iZ 0).toInt64 &&& 63)) = TL A B := by decide +kernel
theorem tl_s1 : ∀ A, A < 21 → ∀ B, B < 21 → A + B < 21 → TL A B ||| (TL A B <<< ((iZ 1).toInt64 &&& 63)) = TL (A + 1) B := by decide +kernel
theorem tl_s2 : ∀ A, A < 21 → ∀ B, B < 21 → A + B < 21 → TL A B ||| (TL A B <<< ((iZ 2).toInt64 &&& 63)) = TL A (B + 1) := by decide +kernel
theorem tl_bc : ∀ A, A < 22 → ∀ B, B < 22 → A + B < 22 → bc5 (bc4 (bc4 (bc4 (bc3 (bc2 (bc1 (TL A B)))) 8) 16) 32) = iZ ((fm A B : Nat) : Int) := by decide +kernel
theorem tl_0 : TL 0 0 = Int64.ofNat ((1 : Fin 2) : Nat) := by decide +kernel
theorem tl_stp {A B : Nat} {e : Int} (he : e = 0 ∨ e = 1 ∨ e = 2) (h : A + B < 21) : TL A B ||| (TL A B <<< ((iZ e).toInt64 &&& 63)) = TL (A + adA e 1) (B + adB e 1) := by
  rcases he with rfl | rfl | rfl
  · exact tl_s0 A (by omega) B (by omega) (by omega)
  · exact tl_s1 A (by omega) B (by omega) h
  · exact tl_s2 A (by omega) B (by omega) h
theorem ad_1 (e : Int) (m : Nat) : adA e 1 + adA e m = adA e (m + 1) ∧ adB e 1 + adB e m = adB e (m + 1) ∧ adA e m + adB e m ≤ m := by
  unfold adA adB
  split <;> split <;> omega
/-! cells along one line, counted -/
theorem cnt_one {a N : Nat} (h : a < N) : cnt (fun v => v = a) N = 1 := by
  have h1 : cnt (fun v => v = a) a = 0 := cnt_skip (a := 0) (Nat.zero_le _) (fun p _ b q => by omega)
  have h2 : cnt (fun v => v = a) (a + 1) = cnt (fun v => v = a) a + 1 := cnt_t (P := fun v => v = a) rfl
  have h3 : cnt (fun v => v = a) N = cnt (fun v => v = a) (a + 1) := cnt_skip h (fun p b _ q => by omega)
  omega
theorem dif_img {sz K : Nat → Int} {V : Nat → Nat} {N : Nat} (hk : ∀ p q : Nat, isP sz p → isP sz q → (K q = K p ↔ V q = V p)) (hN : ∀ p : Nat, isP sz p → V p < N) (b : Nat) : difK sz K b = cnt (fun v => ∃ p : Nat, p < b ∧ isP sz p ∧ V p = v) N := by
  induction b with
  | zero => exact (cnt_skip (P := fun v => ∃ p : Nat, p < 0 ∧ isP sz p ∧ V p = v) (a := 0) (Nat.zero_le _) (fun v _ _ h => by obtain ⟨p, hp, _⟩ := h; exact absurd hp (Nat.not_lt_zero _))).symm
  | succ b ih =>
    by_cases hb : isP sz b
    · by_cases hn : ∀ q : Nat, q < b → isP sz q → K q ≠ K b
      · have e : difK sz K (b + 1) = difK sz K b + 1 := cnt_t (P := fun p => isP sz p ∧ ∀ q : Nat, q < p → isP sz q → K q ≠ K p) ⟨hb, hn⟩
        rw [e, ih, ← cnt_one (hN b hb)]
        refine (cnt_dj (fun v _ => ?_) (fun v _ h => ?_)).symm
        · constructor
          · rintro ⟨p, hp, h1, h2⟩
            rcases Nat.lt_succ_iff_lt_or_eq.mp hp with g | g
            · exact Or.inl ⟨p, g, h1, h2⟩
            · exact Or.inr (by rw [← h2, g])
          · rintro (⟨p, hp, h1, h2⟩ | h)
            · exact ⟨p, by omega, h1, h2⟩
            · exact ⟨b, by omega, hb, h.symm⟩
        · obtain ⟨⟨p, hp, h1, h2⟩, h3⟩ := h
          exact hn p hp h1 ((hk b p hb h1).mpr (by rw [h2]; exact h3))
      · have e : difK sz K (b + 1) = difK sz K b := cnt_f (P := fun p => isP sz p ∧ ∀ q : Nat, q < p → isP sz q → K q ≠ K p) (fun h => hn h.2)
        rw [e, ih]
        obtain ⟨q, hq, hq1, hq2⟩ : ∃ q : Nat, q < b ∧ isP sz q ∧ K q = K b := Classical.byContradiction (fun g => hn (fun q h1 h2 h3 => g ⟨q, h1, h2, h3⟩))
        refine cnt_c (fun v _ => ?_)
        constructor
        · rintro ⟨p, hp, h1, h2⟩
          exact ⟨p, by omega, h1, h2⟩
        · rintro ⟨p, hp, h1, h2⟩
          rcases Nat.lt_succ_iff_lt_or_eq.mp hp with g | g
          · exact ⟨p, g, h1, h2⟩
          · exact ⟨q, hq, hq1, by rw [← h2, g]; exact (hk b q hb hq1).mp hq2⟩
    · have e : difK sz K (b + 1) = difK sz K b := cnt_f (P := fun p => isP sz p ∧ ∀ q : Nat, q < p → isP sz q → K q ≠ K p) (fun h => hb h.1)
      rw [e, ih]
      refine cnt_c (fun v _ => ?_)
      constructor
      · rintro ⟨p, hp, h1, h2⟩
        exact ⟨p, by omega, h1, h2⟩
      · rintro ⟨p, hp, h1, h2⟩
        rcases Nat.lt_succ_iff_lt_or_eq.mp hp with g | g
        · exact ⟨p, g, h1, h2⟩
        · exact absurd (by rw [← g]; exact h1) hb
abbrev sbS (A B v : Nat) : Prop := v ≤ A + 2 * B ∧ (A = 0 → v % 2 = 0)
theorem cnt_sbS (A B n : Nat) : cnt (sbS A B) n = ((if A = 0 then min ((n + 1) / 2) (B + 1) else min n (A + 2 * B + 1) : Nat) : Int) := by
  induction n with
  | zero => show (0 : Int) = _; split <;> omega
  | succ n ih =>
    by_cases g : sbS A B n
    · rw [cnt_t g, ih]; split <;> omega
    · rw [cnt_f g, ih]; split <;> omega
theorem ss_add {A B : Nat} {e : Int} (he : e = 0 ∨ e = 1 ∨ e = 2) (m u : Nat) : sbS (A + adA e m) (B + adB e m) u ↔ ∃ v t : Nat, t ≤ m ∧ sbS A B v ∧ (u : Int) = v + e * t := by
  rcases he with rfl | rfl | rfl
  · show sbS A B u ↔ _
    constructor
    · intro h; exact ⟨u, 0, by omega, h, by omega⟩
    · rintro ⟨v, t, h1, h2, h3⟩
      have : u = v := by omega
      rw [this]; exact h2
  · show sbS (A + m) B u ↔ _
    constructor
    · rintro ⟨h1, h2⟩
      by_cases hA : A = 0
      · by_cases hu : u / 2 ≤ B
        · exact ⟨2 * (u / 2), u % 2, by omega, ⟨by omega, by omega⟩, by omega⟩
        · exact ⟨2 * B, u - 2 * B, by omega, ⟨by omega, by omega⟩, by omega⟩
      · exact ⟨min u (A + 2 * B), u - min u (A + 2 * B), by omega, ⟨by omega, by omega⟩, by omega⟩
    · rintro ⟨v, t, h1, ⟨h2, h4⟩, h3⟩
      exact ⟨by omega, by omega⟩
  · show sbS A (B + m) u ↔ _
    constructor
    · rintro ⟨h1, h2⟩
      by_cases hu : u / 2 ≤ m
      · exact ⟨u % 2, u / 2, hu, ⟨by omega, by omega⟩, by omega⟩
      · exact ⟨u - 2 * m, m, by omega, ⟨by omega, by omega⟩, by omega⟩
    · rintro ⟨v, t, h1, ⟨h2, h4⟩, h3⟩
      exact ⟨by omega, by omega⟩
theorem aZ_c {a : Int} (h : -2 ≤ a ∧ a ≤ 2) : aZ a = 0 ∨ aZ a = 1 ∨ aZ a = 2 := by unfold aZ; split <;> omega
/-- one number of a line, from its least: steps of its size -/
theorem at_term {a x s : Int} (h : -2 ≤ a ∧ a ≤ 2) (_ : 0 ≤ x ∧ x < s) (_ : 1 ≤ s ∧ s ≤ 8) : a * x - min 0 (a * (s - 1)) = aZ a * (if 0 ≤ a then x else s - 1 - x) := by
  rcases (show a = -2 ∨ a = -1 ∨ a = 0 ∨ a = 1 ∨ a = 2 by omega) with rfl | rfl | rfl | rfl | rfl
  · show -2 * x - min 0 (-2 * (s - 1)) = 2 * (s - 1 - x); omega
  · show -1 * x - min 0 (-1 * (s - 1)) = 1 * (s - 1 - x); omega
  · show 0 * x - min 0 (0 * (s - 1)) = 0 * x; omega
  · show 1 * x - min 0 (1 * (s - 1)) = 1 * x; omega
  · show 2 * x - min 0 (2 * (s - 1)) = 2 * x; omega
theorem at_1 {nu sz : Nat → Int} {p : Nat} (hs : SzOk sz) (h2 : Nu2 nu) (hp : isP sz p) : atZ nu sz 1 p = aZ (nu 3) * (if 0 ≤ nu 3 then ((p / 64 : Nat) : Int) else sz 0 - 1 - ((p / 64 : Nat) : Int)) + aZ (nu 4) * (if 0 ≤ nu 4 then ((p / 8 % 8 : Nat) : Int) else sz 1 - 1 - ((p / 8 % 8 : Nat) : Int)) + aZ (nu 5) * (if 0 ≤ nu 5 then ((p % 8 : Nat) : Int) else sz 2 - 1 - ((p % 8 : Nat) : Int)) := by
  rw [← at_term (h2 3 (by omega)) (x := ((p / 64 : Nat) : Int)) (s := sz 0) ⟨by omega, hp.1⟩ (by omega), ← at_term (h2 4 (by omega)) (x := ((p / 8 % 8 : Nat) : Int)) (s := sz 1) ⟨by omega, hp.2.1⟩ (by omega), ← at_term (h2 5 (by omega)) (x := ((p % 8 : Nat) : Int)) (s := sz 2) ⟨by omega, hp.2.2⟩ (by omega)]
  unfold atZ dotP dotZ lesZ
  show nu 3 * _ + nu 4 * _ + nu 5 * _ - (min 0 (nu 3 * _) + min 0 (nu 4 * _) + min 0 (nu 5 * _)) = _
  omega
theorem line_img {nu sz : Nat → Int} (hs : SzOk sz) (h2 : Nu2 nu) (u : Nat) : (∃ p : Nat, p < 512 ∧ isP sz p ∧ (atZ nu sz 1 p).toNat = u) ↔ sbS (0 + adA (aZ (nu 3)) (sz 0 - 1).toNat + adA (aZ (nu 4)) (sz 1 - 1).toNat + adA (aZ (nu 5)) (sz 2 - 1).toNat) (0 + adB (aZ (nu 3)) (sz 0 - 1).toNat + adB (aZ (nu 4)) (sz 1 - 1).toNat + adB (aZ (nu 5)) (sz 2 - 1).toNat) u := by
  have c3 := aZ_c (h2 3 (by omega))
  have c4 := aZ_c (h2 4 (by omega))
  have c5 := aZ_c (h2 5 (by omega))
  rw [ss_add c5]
  constructor
  · rintro ⟨p, hp5, hp, e⟩
    have h1 := at_1 hs h2 hp
    have h0 := atZ_b (h := 1) (Nu2_3 h2) hs (by omega) hp
    obtain ⟨t0, g0⟩ : ∃ t : Nat, (t : Int) = if 0 ≤ nu 3 then ((p / 64 : Nat) : Int) else sz 0 - 1 - ((p / 64 : Nat) : Int) := ⟨(if 0 ≤ nu 3 then ((p / 64 : Nat) : Int) else sz 0 - 1 - ((p / 64 : Nat) : Int)).toNat, by have := hp.1; split <;> omega⟩
    obtain ⟨t1, g1⟩ : ∃ t : Nat, (t : Int) = if 0 ≤ nu 4 then ((p / 8 % 8 : Nat) : Int) else sz 1 - 1 - ((p / 8 % 8 : Nat) : Int) := ⟨(if 0 ≤ nu 4 then ((p / 8 % 8 : Nat) : Int) else sz 1 - 1 - ((p / 8 % 8 : Nat) : Int)).toNat, by have := hp.2.1; split <;> omega⟩
    obtain ⟨t2, g2⟩ : ∃ t : Nat, (t : Int) = if 0 ≤ nu 5 then ((p % 8 : Nat) : Int) else sz 2 - 1 - ((p % 8 : Nat) : Int) := ⟨(if 0 ≤ nu 5 then ((p % 8 : Nat) : Int) else sz 2 - 1 - ((p % 8 : Nat) : Int)).toNat, by have := hp.2.2; split <;> omega⟩
    rw [← g0, ← g1, ← g2] at h1
    have b0 : t0 ≤ (sz 0 - 1).toNat := by have := hp.1; split at g0 <;> omega
    have b1 : t1 ≤ (sz 1 - 1).toNat := by have := hp.2.1; split at g1 <;> omega
    have b2 : t2 ≤ (sz 2 - 1).toNat := by have := hp.2.2; split at g2 <;> omega
    obtain ⟨v1, k1⟩ : ∃ v : Nat, (v : Int) = aZ (nu 3) * t0 := by
      rcases c3 with e | e | e <;> rw [e]
      · exact ⟨0, by omega⟩
      · exact ⟨t0, by omega⟩
      · exact ⟨2 * t0, by omega⟩
    obtain ⟨v2, k2⟩ : ∃ v : Nat, (v : Int) = v1 + aZ (nu 4) * t1 := by
      rcases c4 with e | e | e <;> rw [e]
      · exact ⟨v1, by omega⟩
      · exact ⟨v1 + t1, by omega⟩
      · exact ⟨v1 + 2 * t1, by omega⟩
    refine ⟨v2, t2, b2, (ss_add c4 _ _).mpr ⟨v1, t1, b1, (ss_add c3 _ _).mpr ⟨0, t0, b0, ⟨by omega, by omega⟩, by omega⟩, k2⟩, by omega⟩
  · rintro ⟨v2, t2, b2, h2', e2⟩
    obtain ⟨v1, t1, b1, h1', e1⟩ := (ss_add c4 _ _).mp h2'
    obtain ⟨v0, t0, b0, h0', e0⟩ := (ss_add c3 _ _).mp h1'
    have hv0 : v0 = 0 := by omega
    subst hv0
    obtain ⟨x0, g0, l0⟩ : ∃ x : Nat, (x : Int) = (if 0 ≤ nu 3 then (t0 : Int) else sz 0 - 1 - t0) ∧ (x : Int) < sz 0 := ⟨(if 0 ≤ nu 3 then (t0 : Int) else sz 0 - 1 - t0).toNat, by split <;> omega, by split <;> omega⟩
    obtain ⟨x1, g1, l1⟩ : ∃ x : Nat, (x : Int) = (if 0 ≤ nu 4 then (t1 : Int) else sz 1 - 1 - t1) ∧ (x : Int) < sz 1 := ⟨(if 0 ≤ nu 4 then (t1 : Int) else sz 1 - 1 - t1).toNat, by split <;> omega, by split <;> omega⟩
    obtain ⟨x2, g2, l2⟩ : ∃ x : Nat, (x : Int) = (if 0 ≤ nu 5 then (t2 : Int) else sz 2 - 1 - t2) ∧ (x : Int) < sz 2 := ⟨(if 0 ≤ nu 5 then (t2 : Int) else sz 2 - 1 - t2).toNat, by split <;> omega, by split <;> omega⟩
    have d0 : (64 * x0 + 8 * x1 + x2) / 64 = x0 := by omega
    have d1 : (64 * x0 + 8 * x1 + x2) / 8 % 8 = x1 := by omega
    have d2 : (64 * x0 + 8 * x1 + x2) % 8 = x2 := by omega
    have hp : isP sz (64 * x0 + 8 * x1 + x2) := ⟨by rw [d0]; exact l0, by rw [d1]; exact l1, by rw [d2]; exact l2⟩
    refine ⟨64 * x0 + 8 * x1 + x2, by omega, hp, ?_⟩
    rw [at_1 hs h2 hp, d0, d1, d2]
    have q0 : (if 0 ≤ nu 3 then ((x0 : Nat) : Int) else sz 0 - 1 - ((x0 : Nat) : Int)) = t0 := by split at g0 <;> rename_i g <;> simp only [g, if_true, if_false] <;> omega
    have q1 : (if 0 ≤ nu 4 then ((x1 : Nat) : Int) else sz 1 - 1 - ((x1 : Nat) : Int)) = t1 := by split at g1 <;> rename_i g <;> simp only [g, if_true, if_false] <;> omega
    have q2 : (if 0 ≤ nu 5 then ((x2 : Nat) : Int) else sz 2 - 1 - ((x2 : Nat) : Int)) = t2 := by split at g2 <;> rename_i g <;> simp only [g, if_true, if_false] <;> omega
    rw [q0, q1, q2]
    omega
theorem line_cnt {nu sz : Nat → Int} (hs : SzOk sz) (h2 : Nu2 nu) (hg : crG nu 1 2 = 0) (hfi : nu 3 ≠ 0 ∨ nu 4 ≠ 0 ∨ nu 5 ≠ 0) : difK sz (keyZ nu sz 1) 512 = ((fm (0 + adA (aZ (nu 3)) (sz 0 - 1).toNat + adA (aZ (nu 4)) (sz 1 - 1).toNat + adA (aZ (nu 5)) (sz 2 - 1).toNat) (0 + adB (aZ (nu 3)) (sz 0 - 1).toNat + adB (aZ (nu 4)) (sz 1 - 1).toNat + adB (aZ (nu 5)) (sz 2 - 1).toNat) : Nat) : Int) := by
  obtain ⟨gI, gJ, gK⟩ := gcd_0 hg
  have gI : nu 4 * nu 8 - nu 5 * nu 7 = 0 := gI
  have gJ : nu 5 * nu 6 - nu 3 * nu 8 = 0 := gJ
  have gK : nu 3 * nu 7 - nu 4 * nu 6 = 0 := gK
  have hn := Nu2_3 h2
  have hk : ∀ p q : Nat, isP sz p → isP sz q → (keyZ nu sz 1 q = keyZ nu sz 1 p ↔ (atZ nu sz 1 q).toNat = (atZ nu sz 1 p).toNat) := by
    intro p q hp hq
    have a := atZ_b (h := 1) hn hs (by omega) hp
    have b := atZ_b (h := 1) hn hs (by omega) hq
    have f : atZ nu sz 1 p - atZ nu sz 1 q = dotZ nu 1 (((p / 64 : Nat) : Int) - ((q / 64 : Nat) : Int)) (((p / 8 % 8 : Nat) : Int) - ((q / 8 % 8 : Nat) : Int)) (((p % 8 : Nat) : Int) - ((q % 8 : Nat) : Int)) := by
      unfold atZ dotP dotZ
      grind
    rw [key_eq hn hs hp hq]
    constructor
    · intro h
      omega
    · intro h
      have h1 : dotZ nu 1 (((p / 64 : Nat) : Int) - ((q / 64 : Nat) : Int)) (((p / 8 % 8 : Nat) : Int) - ((q / 8 % 8 : Nat) : Int)) (((p % 8 : Nat) : Int) - ((q % 8 : Nat) : Int)) = 0 := by omega
      exact ⟨h1, par_dot (s0 := nu 3) (s1 := nu 4) (s2 := nu 5) (r0 := nu 6) (r1 := nu 7) (r2 := nu 8) hfi (by omega) (by omega) (by omega) h1⟩
  rw [dif_img (V := fun p => (atZ nu sz 1 p).toNat) (N := 64) hk (fun p hp => by have a := atZ_b (h := 1) hn hs (by omega) hp; show (atZ nu sz 1 p).toNat < 64; omega) 512, cnt_c (fun u _ => line_img hs h2 u), cnt_sbS]
  have x0 := (ad_1 (aZ (nu 3)) (sz 0 - 1).toNat).2.2
  have x1 := (ad_1 (aZ (nu 4)) (sz 1 - 1).toNat).2.2
  have x2 := (ad_1 (aZ (nu 5)) (sz 2 - 1).toNat).2.2
  unfold fm
  split <;> omega
