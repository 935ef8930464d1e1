/-! HOW MANY CELLS, AND WHETHER TWO POINTS MEET, OUT OF THE VECTORS ACROSS -/
theorem ker_dvd {x y z d e f : Int} (hg : Nat.gcd x.natAbs (Nat.gcd y.natAbs z.natAbs) = 1) (h1 : d * y = e * x) (h2 : d * z = f * x) : x ∣ d := by
  have a : x.natAbs ∣ d.natAbs * Nat.gcd x.natAbs (Nat.gcd y.natAbs z.natAbs) := by
    rw [← Nat.gcd_mul_left, ← Nat.gcd_mul_left, ← Int.natAbs_mul, ← Int.natAbs_mul, ← Int.natAbs_mul, h1, h2]
    refine Nat.dvd_gcd ?_ (Nat.dvd_gcd ?_ ?_)
    · rw [Int.natAbs_mul]; exact Nat.dvd_mul_left _ _
    · rw [Int.natAbs_mul]; exact Nat.dvd_mul_left _ _
    · rw [Int.natAbs_mul]; exact Nat.dvd_mul_left _ _
  rw [hg, Nat.mul_one] at a
  exact Int.natAbs_dvd_natAbs.mp a
theorem ker3 {a0 a1 a2 d0 d1 d2 : Int} (hg : Nat.gcd a0.natAbs (Nat.gcd a1.natAbs a2.natAbs) = 1) (h01 : d0 * a1 = d1 * a0) (h02 : d0 * a2 = d2 * a0) (h12 : d1 * a2 = d2 * a1) : ∃ k : Int, d0 = k * a0 ∧ d1 = k * a1 ∧ d2 = k * a2 := by
  by_cases z0 : a0 = 0
  · by_cases z1 : a1 = 0
    · by_cases z2 : a2 = 0
      · rw [z0, z1, z2] at hg; exact absurd hg (by decide)
      · obtain ⟨k, hk⟩ := ker_dvd (x := a2) (y := a0) (z := a1) (d := d2) (e := d0) (f := d1) (by rw [← hg]; rw [Nat.gcd_comm, Nat.gcd_assoc]) h02.symm h12.symm
        refine ⟨k, ?_, ?_, by rw [hk]; exact Int.mul_comm _ _⟩
        · exact Int.eq_of_mul_eq_mul_right z2 (by rw [h02, hk]; grind)
        · exact Int.eq_of_mul_eq_mul_right z2 (by rw [h12, hk]; grind)
    · obtain ⟨k, hk⟩ := ker_dvd (x := a1) (y := a0) (z := a2) (d := d1) (e := d0) (f := d2) (by rw [← hg]; rw [← Nat.gcd_assoc, Nat.gcd_comm a1.natAbs, Nat.gcd_assoc]) h01.symm h12
      refine ⟨k, ?_, by rw [hk]; exact Int.mul_comm _ _, ?_⟩
      · exact Int.eq_of_mul_eq_mul_right z1 (by rw [h01, hk]; grind)
      · exact Int.eq_of_mul_eq_mul_right z1 (by rw [← h12, hk]; grind)
  · obtain ⟨k, hk⟩ := ker_dvd (x := a0) (y := a1) (z := a2) (d := d0) (e := d1) (f := d2) hg h01 h02
    refine ⟨k, by rw [hk]; exact Int.mul_comm _ _, ?_, ?_⟩
    · exact Int.eq_of_mul_eq_mul_right z0 (by rw [← h01, hk]; grind)
    · exact Int.eq_of_mul_eq_mul_right z0 (by rw [← h02, hk]; grind)
theorem aZ_nat (x : Int) : (aZ x).toNat = x.natAbs := by unfold aZ; split <;> omega
/-- what lies across two vectors: g times a vector without a common divisor -/
theorem ac_spec {nu : Nat → Int} {o t : Nat} (hg : crG nu o t ≠ 0) : crI nu o t = (crG nu o t : Int) * acF nu o t 0 ∧ crJ nu o t = (crG nu o t : Int) * acF nu o t 1 ∧ crK nu o t = (crG nu o t : Int) * acF nu o t 2 ∧ Nat.gcd (acF nu o t 0).natAbs (Nat.gcd (acF nu o t 1).natAbs (acF nu o t 2).natAbs) = 1 := by
  have e : crG nu o t = Nat.gcd (crI nu o t).natAbs (Nat.gcd (crJ nu o t).natAbs (crK nu o t).natAbs) := by unfold crG; rw [aZ_nat, aZ_nat, aZ_nat]
  generalize hgg : crG nu o t = g at hg e
  have d0 : (g : Int) ∣ crI nu o t := Int.ofNat_dvd_left.mpr (by rw [e]; exact Nat.gcd_dvd_left _ _)
  have d1 : (g : Int) ∣ crJ nu o t := Int.ofNat_dvd_left.mpr (by rw [e]; exact Nat.dvd_trans (Nat.gcd_dvd_right _ _) (Nat.gcd_dvd_left _ _))
  have d2 : (g : Int) ∣ crK nu o t := Int.ofNat_dvd_left.mpr (by rw [e]; exact Nat.dvd_trans (Nat.gcd_dvd_right _ _) (Nat.gcd_dvd_right _ _))
  have a0 : acF nu o t 0 = (crI nu o t).tdiv g := by unfold acF; rw [if_pos rfl, hgg]
  have a1 : acF nu o t 1 = (crJ nu o t).tdiv g := by unfold acF; rw [if_neg (by decide), if_pos rfl, hgg]
  have a2 : acF nu o t 2 = (crK nu o t).tdiv g := by unfold acF; rw [if_neg (by decide), if_neg (by decide), hgg]
  have c0 : crI nu o t = (g : Int) * acF nu o t 0 := by rw [a0]; exact (Int.mul_tdiv_cancel' d0).symm
  have c1 : crJ nu o t = (g : Int) * acF nu o t 1 := by rw [a1]; exact (Int.mul_tdiv_cancel' d1).symm
  have c2 : crK nu o t = (g : Int) * acF nu o t 2 := by rw [a2]; exact (Int.mul_tdiv_cancel' d2).symm
  refine ⟨c0, c1, c2, ?_⟩
  have f : g * Nat.gcd (acF nu o t 0).natAbs (Nat.gcd (acF nu o t 1).natAbs (acF nu o t 2).natAbs) = g * 1 := by
    rw [Nat.mul_one]
    rw [← Nat.gcd_mul_left, ← Nat.gcd_mul_left]
    have z : ∀ x : Int, g * x.natAbs = ((g : Int) * x).natAbs := fun x => by rw [Int.natAbs_mul]; rfl
    rw [z, z, z, ← c0, ← c1, ← c2]
    exact e.symm
  exact Nat.eq_of_mul_eq_mul_left (Nat.pos_of_ne_zero hg) f
/-- whole vectors across both are multiples of it -/
theorem ac_ker {nu : Nat → Int} {o t : Nat} (hg : crG nu o t ≠ 0) {d0 d1 d2 : Int} (h1 : dotZ nu o d0 d1 d2 = 0) (h2 : dotZ nu t d0 d1 d2 = 0) : ∃ k : Int, d0 = k * acF nu o t 0 ∧ d1 = k * acF nu o t 1 ∧ d2 = k * acF nu o t 2 := by
  obtain ⟨c0, c1, c2, c3⟩ := ac_spec hg
  have hg' : (crG nu o t : Int) ≠ 0 := by omega
  unfold dotZ at h1 h2
  unfold crI at c0
  unfold crJ at c1
  unfold crK at c2
  generalize (crG nu o t : Int) = g at *
  generalize acF nu o t 0 = a0 at *
  generalize acF nu o t 1 = a1 at *
  generalize acF nu o t 2 = a2 at *
  generalize nu (3 * o) = s0 at *
  generalize nu (3 * o + 1) = s1 at *
  generalize nu (3 * o + 2) = s2 at *
  generalize nu (3 * t) = r0 at *
  generalize nu (3 * t + 1) = r1 at *
  generalize nu (3 * t + 2) = r2 at *
  refine ker3 c3 ?_ ?_ ?_
  · refine Int.eq_of_mul_eq_mul_left hg' ?_
    have : d0 * (g * a1) = d1 * (g * a0) := by rw [← c0, ← c1]; grind
    grind
  · refine Int.eq_of_mul_eq_mul_left hg' ?_
    have : d0 * (g * a2) = d2 * (g * a0) := by rw [← c0, ← c2]; grind
    grind
  · refine Int.eq_of_mul_eq_mul_left hg' ?_
    have : d1 * (g * a2) = d2 * (g * a1) := by rw [← c1, ← c2]; grind
    grind
theorem ac_dot {nu : Nat → Int} {o t : Nat} (hg : crG nu o t ≠ 0) : dotZ nu o (acF nu o t 0) (acF nu o t 1) (acF nu o t 2) = 0 ∧ dotZ nu t (acF nu o t 0) (acF nu o t 1) (acF nu o t 2) = 0 := by
  obtain ⟨c0, c1, c2, c3⟩ := ac_spec hg
  have hg' : (crG nu o t : Int) ≠ 0 := by omega
  unfold dotZ
  unfold crI at c0
  unfold crJ at c1
  unfold crK at c2
  generalize (crG nu o t : Int) = g at *
  generalize acF nu o t 0 = a0 at *
  generalize acF nu o t 1 = a1 at *
  generalize acF nu o t 2 = a2 at *
  generalize nu (3 * o) = s0 at *
  generalize nu (3 * o + 1) = s1 at *
  generalize nu (3 * o + 2) = s2 at *
  generalize nu (3 * t) = r0 at *
  generalize nu (3 * t + 1) = r1 at *
  generalize nu (3 * t + 2) = r2 at *
  constructor
  · refine Int.eq_of_mul_eq_mul_left hg' ?_
    have : s0 * (g * a0) + s1 * (g * a1) + s2 * (g * a2) = 0 := by rw [← c0, ← c1, ← c2]; grind
    grind
  · refine Int.eq_of_mul_eq_mul_left hg' ?_
    have : r0 * (g * a0) + r1 * (g * a1) + r2 * (g * a2) = 0 := by rw [← c0, ← c1, ← c2]; grind
    grind
theorem ac_nz {nu : Nat → Int} {o t : Nat} (hg : crG nu o t ≠ 0) : acF nu o t 0 ≠ 0 ∨ acF nu o t 1 ≠ 0 ∨ acF nu o t 2 ≠ 0 := by
  obtain ⟨-, -, -, c3⟩ := ac_spec hg
  by_cases z0 : acF nu o t 0 = 0
  · by_cases z1 : acF nu o t 1 = 0
    · refine Or.inr (Or.inr (fun z2 => ?_))
      rw [z0, z1, z2] at c3
      exact absurd c3 (by decide)
    · exact Or.inr (Or.inl z1)
  · exact Or.inl z0
/-! boxes of points, counted -/
theorem cnt_pr (Q R : Nat → Prop) (n : Nat) : cnt (fun p => Q (p / 8) ∧ R (p % 8)) (8 * n) = cnt Q n * cnt R 8 := by
  induction n with
  | zero => exact (Int.zero_mul _).symm
  | succ n ih =>
    have st : ∀ r : Nat, r ≤ 8 → cnt (fun p => Q (p / 8) ∧ R (p % 8)) (8 * n + r) = cnt (fun p => Q (p / 8) ∧ R (p % 8)) (8 * n) + (@ite Int (Q n) (Classical.propDecidable _) 1 0) * cnt R r := by
      intro r
      induction r with
      | zero => intro _; rw [show cnt R 0 = 0 from rfl, Int.mul_zero, Int.add_zero]; rfl
      | succ r ihr =>
        intro hr
        have a := ihr (by omega)
        have e1 : (8 * n + r) / 8 = n := by omega
        have e2 : (8 * n + r) % 8 = r := by omega
        by_cases q : Q n
        · rw [if_pos q, Int.one_mul] at a ⊢
          by_cases g : R r
          · rw [cnt_t g, ← Nat.add_assoc, cnt_t (P := fun p => Q (p / 8) ∧ R (p % 8)) ⟨by rw [e1]; exact q, by rw [e2]; exact g⟩, a]
            omega
          · rw [cnt_f g, ← Nat.add_assoc, cnt_f (P := fun p => Q (p / 8) ∧ R (p % 8)) (fun z => g (by have := z.2; rw [e2] at this; exact this)), a]
        · rw [if_neg q, Int.zero_mul] at a ⊢
          rw [← Nat.add_assoc, cnt_f (P := fun p => Q (p / 8) ∧ R (p % 8)) (fun z => q (by have := z.1; rw [e1] at this; exact this)), a]
    have a := st 8 (Nat.le_refl 8)
    rw [show 8 * (n + 1) = 8 * n + 8 by omega, a, ih]
    by_cases q : Q n
    · rw [if_pos q, cnt_t q]; grind
    · rw [if_neg q, cnt_f q]; grind
theorem cnt_iv {l h : Int} (hl : 0 ≤ l) (n : Nat) : cnt (fun i => l ≤ (i : Int) ∧ (i : Int) < h) n = max 0 (min h n - l) := by
  induction n with
  | zero => show (0 : Int) = _; omega
  | succ n ih =>
    by_cases g : l ≤ (n : Int) ∧ (n : Int) < h
    · rw [cnt_t (P := fun i : Nat => l ≤ (i : Int) ∧ (i : Int) < h) g, ih]; omega
    · rw [cnt_f (P := fun i : Nat => l ≤ (i : Int) ∧ (i : Int) < h) g, ih]; omega
theorem cnt_box {l0 l1 l2 h0 h1 h2 : Int} (a0 : 0 ≤ l0) (a1 : 0 ≤ l1) (a2 : 0 ≤ l2) (b0 : h0 ≤ 8) (b1 : h1 ≤ 8) (b2 : h2 ≤ 8) : cnt (fun p => (l0 ≤ ((p / 64 : Nat) : Int) ∧ ((p / 64 : Nat) : Int) < h0) ∧ (l1 ≤ ((p / 8 % 8 : Nat) : Int) ∧ ((p / 8 % 8 : Nat) : Int) < h1) ∧ (l2 ≤ ((p % 8 : Nat) : Int) ∧ ((p % 8 : Nat) : Int) < h2)) 512 = max 0 (h0 - l0) * max 0 (h1 - l1) * max 0 (h2 - l2) := by
  have c0 := cnt_iv (h := h0) a0 8
  have c1 := cnt_iv (h := h1) a1 8
  have c2 := cnt_iv (h := h2) a2 8
  rw [show min h0 ((8 : Nat) : Int) = h0 by omega] at c0
  rw [show min h1 ((8 : Nat) : Int) = h1 by omega] at c1
  rw [show min h2 ((8 : Nat) : Int) = h2 by omega] at c2
  have p1 := cnt_pr (fun i => l0 ≤ (i : Int) ∧ (i : Int) < h0) (fun i => l1 ≤ (i : Int) ∧ (i : Int) < h1) 8
  have p2 := cnt_pr (fun q => (l0 ≤ ((q / 8 : Nat) : Int) ∧ ((q / 8 : Nat) : Int) < h0) ∧ (l1 ≤ ((q % 8 : Nat) : Int) ∧ ((q % 8 : Nat) : Int) < h1)) (fun i => l2 ≤ (i : Int) ∧ (i : Int) < h2) 64
  rw [c0, c1] at p1
  rw [show (8 : Nat) * 8 = 64 from rfl] at p1
  rw [p1, c2, show (8 : Nat) * 64 = 512 from rfl] at p2
  rw [← p2]
  refine cnt_c (fun p _ => ?_)
  have e : p / 8 / 8 = p / 64 := by omega
  show _ ↔ ((l0 ≤ ((p / 8 / 8 : Nat) : Int) ∧ ((p / 8 / 8 : Nat) : Int) < h0) ∧ (l1 ≤ ((p / 8 % 8 : Nat) : Int) ∧ ((p / 8 % 8 : Nat) : Int) < h1)) ∧ (l2 ≤ ((p % 8 : Nat) : Int) ∧ ((p % 8 : Nat) : Int) < h2)
  rw [e]
  exact and_assoc.symm
/-- one step along a row stays between -/
theorem row_in {x m a s : Int} (hm : 1 ≤ m) (h1 : 0 ≤ x) (h2 : x < s) (h3 : 0 ≤ x - m * a) (h4 : x - m * a < s) : 0 ≤ x - a ∧ x - a < s := by
  rcases Int.le_total 0 a with h | h
  · have : a ≤ m * a := by have := Int.mul_le_mul_of_nonneg_right hm h; omega
    omega
  · have : m * a ≤ a := by have := Int.mul_le_mul_of_nonpos_right hm h; omega
    omega
theorem mul_sm {k a : Int} (hk : k ≠ 0) (h : -7 ≤ k * a ∧ k * a ≤ 7) : -7 ≤ a ∧ a ≤ 7 := by
  rcases Int.lt_or_gt_of_ne hk with h1 | h1
  · rcases Int.le_total 0 a with h2 | h2
    · have := Int.mul_le_mul_of_nonneg_right (show k ≤ -1 by omega) h2; omega
    · have := Int.mul_le_mul_of_nonpos_right (show k ≤ -1 by omega) h2; omega
  · rcases Int.le_total 0 a with h2 | h2
    · have := Int.mul_le_mul_of_nonneg_right (show 1 ≤ k by omega) h2; omega
    · have := Int.mul_le_mul_of_nonpos_right (show 1 ≤ k by omega) h2; omega
abbrev sameR (a0 a1 a2 : Int) (p q : Nat) : Prop := ∃ k : Int, ((p / 64 : Nat) : Int) - ((q / 64 : Nat) : Int) = k * a0 ∧ ((p / 8 % 8 : Nat) : Int) - ((q / 8 % 8 : Nat) : Int) = k * a1 ∧ ((p % 8 : Nat) : Int) - ((q % 8 : Nat) : Int) = k * a2
theorem dif_box1 {sz K : Nat → Int} {a0 a1 a2 : Int} (hs : SzOk sz) (hnz : a0 ≠ 0 ∨ a1 ≠ 0 ∨ a2 ≠ 0) (hw : 0 ≤ 64 * a0 + 8 * a1 + a2) (hk : ∀ p q : Nat, isP sz p → isP sz q → (K q = K p ↔ sameR a0 a1 a2 p q)) : difK sz K 512 = sz 0 * sz 1 * sz 2 - max 0 (sz 0 - aZ a0) * max 0 (sz 1 - aZ a1) * max 0 (sz 2 - aZ a2) := by
  have key : ∀ p : Nat, isP sz p → ((∀ q : Nat, q < p → isP sz q → K q ≠ K p) ↔ ¬ ((0 ≤ ((p / 64 : Nat) : Int) - a0 ∧ ((p / 64 : Nat) : Int) - a0 < sz 0) ∧ (0 ≤ ((p / 8 % 8 : Nat) : Int) - a1 ∧ ((p / 8 % 8 : Nat) : Int) - a1 < sz 1) ∧ (0 ≤ ((p % 8 : Nat) : Int) - a2 ∧ ((p % 8 : Nat) : Int) - a2 < sz 2))) := by
    intro p hp
    constructor
    · intro h ⟨⟨b0, c0⟩, ⟨b1, c1⟩, b2, c2⟩
      obtain ⟨q, hq⟩ : ∃ q : Nat, (q : Int) = 64 * (((p / 64 : Nat) : Int) - a0) + 8 * (((p / 8 % 8 : Nat) : Int) - a1) + (((p % 8 : Nat) : Int) - a2) := ⟨(64 * (((p / 64 : Nat) : Int) - a0) + 8 * (((p / 8 % 8 : Nat) : Int) - a1) + (((p % 8 : Nat) : Int) - a2)).toNat, by omega⟩
      have e0 : ((q / 64 : Nat) : Int) = ((p / 64 : Nat) : Int) - a0 := by omega
      have e1 : ((q / 8 % 8 : Nat) : Int) = ((p / 8 % 8 : Nat) : Int) - a1 := by omega
      have e2 : ((q % 8 : Nat) : Int) = ((p % 8 : Nat) : Int) - a2 := by omega
      have hqp : isP sz q := ⟨by omega, by omega, by omega⟩
      have hlt : q < p := by omega
      exact h q hlt hqp ((hk p q hp hqp).mpr ⟨1, by omega, by omega, by omega⟩)
    · intro h q hlt hq e
      obtain ⟨k, k0, k1, k2⟩ := (hk p q hp hq).mp e
      have hpos : (p : Int) - (q : Int) = k * (64 * a0 + 8 * a1 + a2) := by
        have : (p : Int) - (q : Int) = 64 * (k * a0) + 8 * (k * a1) + k * a2 := by rw [← k0, ← k1, ← k2]; omega
        rw [this]; grind
      have hk1 : 1 ≤ k := by
        rcases Int.lt_or_le 0 k with h1 | h1
        · omega
        · have := Int.mul_le_mul_of_nonneg_right h1 hw
          omega
      refine h ⟨row_in hk1 (by omega) hp.1 (by omega) (by omega), row_in hk1 (by omega) hp.2.1 (by omega) (by omega), row_in hk1 (by omega) hp.2.2 (by omega) (by omega)⟩
  have h1 : cnt (isP sz) 512 = difK sz K 512 + cnt (fun p => isP sz p ∧ ((0 ≤ ((p / 64 : Nat) : Int) - a0 ∧ ((p / 64 : Nat) : Int) - a0 < sz 0) ∧ (0 ≤ ((p / 8 % 8 : Nat) : Int) - a1 ∧ ((p / 8 % 8 : Nat) : Int) - a1 < sz 1) ∧ (0 ≤ ((p % 8 : Nat) : Int) - a2 ∧ ((p % 8 : Nat) : Int) - a2 < sz 2))) 512 := by
    refine cnt_dj (fun p _ => ?_) (fun p _ h => ?_)
    · constructor
      · intro hp
        by_cases g : ((0 ≤ ((p / 64 : Nat) : Int) - a0 ∧ ((p / 64 : Nat) : Int) - a0 < sz 0) ∧ (0 ≤ ((p / 8 % 8 : Nat) : Int) - a1 ∧ ((p / 8 % 8 : Nat) : Int) - a1 < sz 1) ∧ (0 ≤ ((p % 8 : Nat) : Int) - a2 ∧ ((p % 8 : Nat) : Int) - a2 < sz 2))
        · exact Or.inr ⟨hp, g⟩
        · exact Or.inl ⟨hp, (key p hp).mpr g⟩
      · rintro (h | h)
        · exact h.1
        · exact h.1
    · exact (key p h.1.1).mp h.1.2 h.2.2
  have h2 := cnt_box (l0 := max 0 a0) (l1 := max 0 a1) (l2 := max 0 a2) (h0 := min (sz 0) (sz 0 + a0)) (h1 := min (sz 1) (sz 1 + a1)) (h2 := min (sz 2) (sz 2 + a2)) (by omega) (by omega) (by omega) (by omega) (by omega) (by omega)
  have h3 : cnt (fun p => isP sz p ∧ ((0 ≤ ((p / 64 : Nat) : Int) - a0 ∧ ((p / 64 : Nat) : Int) - a0 < sz 0) ∧ (0 ≤ ((p / 8 % 8 : Nat) : Int) - a1 ∧ ((p / 8 % 8 : Nat) : Int) - a1 < sz 1) ∧ (0 ≤ ((p % 8 : Nat) : Int) - a2 ∧ ((p % 8 : Nat) : Int) - a2 < sz 2))) 512 = max 0 (sz 0 - aZ a0) * max 0 (sz 1 - aZ a1) * max 0 (sz 2 - aZ a2) := by
    have m0 : max 0 (min (sz 0) (sz 0 + a0) - max 0 a0) = max 0 (sz 0 - aZ a0) := by unfold aZ; split <;> omega
    have m1 : max 0 (min (sz 1) (sz 1 + a1) - max 0 a1) = max 0 (sz 1 - aZ a1) := by unfold aZ; split <;> omega
    have m2 : max 0 (min (sz 2) (sz 2 + a2) - max 0 a2) = max 0 (sz 2 - aZ a2) := by unfold aZ; split <;> omega
    rw [← m0, ← m1, ← m2, ← h2]
    refine cnt_c (fun p _ => ?_)
    constructor
    · rintro ⟨hp, ⟨b0, c0⟩, ⟨b1, c1⟩, b2, c2⟩
      exact ⟨⟨by omega, by omega⟩, ⟨by omega, by omega⟩, by omega, by omega⟩
    · rintro ⟨⟨b0, c0⟩, ⟨b1, c1⟩, b2, c2⟩
      exact ⟨⟨by omega, by omega, by omega⟩, ⟨by omega, by omega⟩, ⟨by omega, by omega⟩, by omega, by omega⟩
  rw [h3, cnt_isP hs] at h1
  omega
theorem aZ_neg (x : Int) : aZ (-x) = aZ x := by unfold aZ; split <;> split <;> omega
theorem dif_box {sz K : Nat → Int} {a0 a1 a2 : Int} (hs : SzOk sz) (hnz : a0 ≠ 0 ∨ a1 ≠ 0 ∨ a2 ≠ 0) (hk : ∀ p q : Nat, isP sz p → isP sz q → (K q = K p ↔ sameR a0 a1 a2 p q)) : difK sz K 512 = sz 0 * sz 1 * sz 2 - max 0 (sz 0 - aZ a0) * max 0 (sz 1 - aZ a1) * max 0 (sz 2 - aZ a2) := by
  rcases Int.le_total 0 (64 * a0 + 8 * a1 + a2) with hw | hw
  · exact dif_box1 hs hnz hw hk
  · have h := dif_box1 (a0 := -a0) (a1 := -a1) (a2 := -a2) (K := K) hs (by omega) (by omega) (fun p q hp hq => by
      rw [hk p q hp hq]
      constructor
      · rintro ⟨k, k0, k1, k2⟩
        exact ⟨-k, by rw [k0]; grind, by rw [k1]; grind, by rw [k2]; grind⟩
      · rintro ⟨k, k0, k1, k2⟩
        exact ⟨-k, by rw [k0]; grind, by rw [k1]; grind, by rw [k2]; grind⟩)
    rw [aZ_neg, aZ_neg, aZ_neg] at h
    exact h
/-- two points have one key: their difference is across both lines -/
theorem key_eq {nu sz : Nat → Int} {p q : Nat} (hn : NuOk nu) (hs : SzOk sz) (hp : isP sz p) (hq : isP sz q) : keyZ nu sz 1 q = keyZ nu sz 1 p ↔ dotZ nu 1 (((p / 64 : Nat) : Int) - ((q / 64 : Nat) : Int)) (((p / 8 % 8 : Nat) : Int) - ((q / 8 % 8 : Nat) : Int)) (((p % 8 : Nat) : Int) - ((q % 8 : Nat) : Int)) = 0 ∧ dotZ nu 2 (((p / 64 : Nat) : Int) - ((q / 64 : Nat) : Int)) (((p / 8 % 8 : Nat) : Int) - ((q / 8 % 8 : Nat) : Int)) (((p % 8 : Nat) : Int) - ((q % 8 : Nat) : Int)) = 0 := by
  have a1 := atZ_b (h := 1) hn hs (by omega) hp
  have a2 := atZ_b (h := 2) hn hs (by omega) hp
  have b1 := atZ_b (h := 1) hn hs (by omega) hq
  have b2 := atZ_b (h := 2) hn hs (by omega) hq
  have e : keyZ nu sz 1 q = keyZ nu sz 1 p ↔ atZ nu sz 1 q = atZ nu sz 1 p ∧ atZ nu sz 2 q = atZ nu sz 2 p := by
    unfold keyZ cellZ
    rw [Int.ediv_one, Int.ediv_one]
    omega
  have f : ∀ h : Nat, atZ nu sz h p - atZ nu sz h q = dotZ nu h (((p / 64 : Nat) : Int) - ((q / 64 : Nat) : Int)) (((p / 8 % 8 : Nat) : Int) - ((q / 8 % 8 : Nat) : Int)) (((p % 8 : Nat) : Int) - ((q % 8 : Nat) : Int)) := by
    intro h
    unfold atZ dotP dotZ
    grind
  rw [e, ← f 1, ← f 2]
  omega
theorem dot_mul (nu : Nat → Int) (h : Nat) (k a b c : Int) : dotZ nu h (k * a) (k * b) (k * c) = k * dotZ nu h a b c := by unfold dotZ; grind
theorem cells_1 {nu sz : Nat → Int} (hs : SzOk sz) (h2 : Nu2 nu) (hg : crG nu 1 2 ≠ 0) : difK sz (keyZ nu sz 1) 512 = sz 0 * sz 1 * sz 2 - bhZ sz (acF nu 1 2) := by
  refine dif_box hs (ac_nz hg) (fun p q hp hq => ?_)
  rw [key_eq (Nu2_3 h2) hs hp hq]
  constructor
  · rintro ⟨u, v⟩
    exact ac_ker hg u v
  · rintro ⟨k, k0, k1, k2⟩
    rw [k0, k1, k2, dot_mul, dot_mul, (ac_dot hg).1, (ac_dot hg).2]
    omega
theorem bh_nz {sz ac : Nat → Int} : bhZ sz ac ≠ 0 ↔ aZ (ac 0) < sz 0 ∧ aZ (ac 1) < sz 1 ∧ aZ (ac 2) < sz 2 := by
  unfold bhZ
  rw [Int.mul_ne_zero_iff, Int.mul_ne_zero_iff]
  omega
theorem mul_aZ {k a s : Int} (hk : k ≠ 0) (h : aZ (k * a) < s) : aZ a < s := by
  have e : ∀ x : Int, aZ x = (x.natAbs : Int) := fun x => by unfold aZ; split <;> omega
  rw [e] at h ⊢
  rw [Int.natAbs_mul] at h
  have : a.natAbs ≤ k.natAbs * a.natAbs := Nat.le_mul_of_pos_left _ (by omega)
  omega
theorem cells_2 {nu sz : Nat → Int} (hg : crG nu 0 1 ≠ 0) : metZ nu sz ↔ ¬ (bhZ sz (acF nu 0 1) = 0 ∨ dotZ nu 2 (acF nu 0 1 0) (acF nu 0 1 1) (acF nu 0 1 2) ≠ 0) := by
  have hd := ac_dot hg
  have hnz := ac_nz hg
  constructor
  · rintro ⟨i, j, l, i0, i1, j0, j1, l0, l1, nz, e0, e1, e2⟩
    obtain ⟨k, k0, k1, k2⟩ := ac_ker (nu := nu) (o := 0) (t := 1) hg (d0 := i) (d1 := j) (d2 := l) e0 e1
    have hk : k ≠ 0 := by
      intro z
      rw [z, Int.zero_mul] at k0 k1 k2
      omega
    have e2 : dotZ nu 2 i j l = 0 := e2
    rw [k0, k1, k2, dot_mul] at e2
    have e3 : dotZ nu 2 (acF nu 0 1 0) (acF nu 0 1 1) (acF nu 0 1 2) = 0 := by
      rcases Int.mul_eq_zero.mp e2 with h | h
      · exact absurd h hk
      · exact h
    rintro (h | h)
    · refine bh_nz.mpr ⟨mul_aZ hk ?_, mul_aZ hk ?_, mul_aZ hk ?_⟩ h
      · rw [← k0]; unfold aZ; split <;> omega
      · rw [← k1]; unfold aZ; split <;> omega
      · rw [← k2]; unfold aZ; split <;> omega
    · exact h e3
  · intro h
    have h1 : bhZ sz (acF nu 0 1) ≠ 0 := fun z => h (Or.inl z)
    have h2 : dotZ nu 2 (acF nu 0 1 0) (acF nu 0 1 1) (acF nu 0 1 2) = 0 := Classical.byContradiction (fun z => h (Or.inr z))
    have h3 := bh_nz.mp h1
    unfold dotZ at hd h2
    have hd0 : nu 0 * acF nu 0 1 0 + nu 1 * acF nu 0 1 1 + nu 2 * acF nu 0 1 2 = 0 := hd.1
    have hd1 : nu 3 * acF nu 0 1 0 + nu 4 * acF nu 0 1 1 + nu 5 * acF nu 0 1 2 = 0 := hd.2
    have hd2 : nu 6 * acF nu 0 1 0 + nu 7 * acF nu 0 1 1 + nu 8 * acF nu 0 1 2 = 0 := h2
    generalize acF nu 0 1 0 = a0 at *
    generalize acF nu 0 1 1 = a1 at *
    generalize acF nu 0 1 2 = a2 at *
    have b0 : aZ a0 < sz 0 := h3.1
    have b1 : aZ a1 < sz 1 := h3.2.1
    have b2 : aZ a2 < sz 2 := h3.2.2
    have bb : ∀ x s : Int, aZ x < s → -s < x ∧ x < s := fun x s hx => by unfold aZ at hx; split at hx <;> omega
    have c0 := bb _ _ b0
    have c1 := bb _ _ b1
    have c2 := bb _ _ b2
    rcases Int.le_total 0 a0 with g | g
    · exact ⟨a0, a1, a2, g, by omega, by omega, by omega, by omega, by omega, hnz, hd0, hd1, hd2⟩
    · refine ⟨-a0, -a1, -a2, by omega, by omega, by omega, by omega, by omega, by omega, by omega, ?_, ?_, ?_⟩
      · grind
      · grind
      · grind
theorem gcd_0 {x y z : Int} (h : Nat.gcd (aZ x).toNat (Nat.gcd (aZ y).toNat (aZ z).toNat) = 0) : x = 0 ∧ y = 0 ∧ z = 0 := by
  rw [aZ_nat, aZ_nat, aZ_nat] at h
  have h1 := Nat.gcd_eq_zero_iff.mp h
  have h2 := Nat.gcd_eq_zero_iff.mp h1.2
  omega
/-- along one line: what the second asks, the first asks -/
theorem par_dot {s0 s1 s2 r0 r1 r2 d0 d1 d2 : Int} (hnz : s0 ≠ 0 ∨ s1 ≠ 0 ∨ s2 ≠ 0) (hI : s1 * r2 = s2 * r1) (hJ : s2 * r0 = s0 * r2) (hK : s0 * r1 = s1 * r0) (h : s0 * d0 + s1 * d1 + s2 * d2 = 0) : r0 * d0 + r1 * d1 + r2 * d2 = 0 := by
  have e0 : s0 * (r0 * d0 + r1 * d1 + r2 * d2) = r0 * (s0 * d0 + s1 * d1 + s2 * d2) := by grind
  have e1 : s1 * (r0 * d0 + r1 * d1 + r2 * d2) = r1 * (s0 * d0 + s1 * d1 + s2 * d2) := by grind
  have e2 : s2 * (r0 * d0 + r1 * d1 + r2 * d2) = r2 * (s0 * d0 + s1 * d1 + s2 * d2) := by grind
  rw [h, Int.mul_zero] at e0 e1 e2
  rcases hnz with g | g | g
  · rcases Int.mul_eq_zero.mp e0 with q | q
    · exact absurd q g
    · exact q
  · rcases Int.mul_eq_zero.mp e1 with q | q
    · exact absurd q g
    · exact q
  · rcases Int.mul_eq_zero.mp e2 with q | q
    · exact absurd q g
    · exact q
theorem dif_ne {sz K : Nat → Int} (hs : SzOk sz) : difK sz K 512 ≠ sz 0 * sz 1 * sz 2 ↔ ∃ p q : Nat, q < p ∧ isP sz p ∧ isP sz q ∧ K q = K p := by
  have h1 : cnt (isP sz) 512 = difK sz K 512 + cnt (fun p => isP sz p ∧ ∃ q : Nat, q < p ∧ isP sz q ∧ K q = K p) 512 := by
    refine cnt_dj (fun p _ => ?_) (fun p _ h => ?_)
    · constructor
      · intro hp
        by_cases g : ∃ q : Nat, q < p ∧ isP sz q ∧ K q = K p
        · exact Or.inr ⟨hp, g⟩
        · exact Or.inl ⟨hp, fun q a b c => g ⟨q, a, b, c⟩⟩
      · rintro (h | h)
        · exact h.1
        · exact h.1
    · obtain ⟨q, a, b, c⟩ := h.2.2
      exact h.1.2 q a b c
  rw [cnt_isP hs] at h1
  have hb := cnt_b (fun p => isP sz p ∧ ∃ q : Nat, q < p ∧ isP sz q ∧ K q = K p) 512
  constructor
  · intro h
    refine Classical.byContradiction (fun g => h ?_)
    have : cnt (fun p => isP sz p ∧ ∃ q : Nat, q < p ∧ isP sz q ∧ K q = K p) 512 = 0 := cnt_skip (a := 0) (Nat.zero_le _) (fun p _ _ z => by
      obtain ⟨hp, q, a, b, c⟩ := z
      exact g ⟨p, q, a, hp, b, c⟩)
    omega
  · rintro ⟨p, q, a, hp, hq, c⟩ e
    have h2 := cnt_lt (P := fun p => isP sz p ∧ ∃ q : Nat, q < p ∧ isP sz q ∧ K q = K p) (m := p) (n := 512) (isP_lt hs hp) ⟨hp, q, a, hq, c⟩
    have h3 := cnt_b (fun p => isP sz p ∧ ∃ q : Nat, q < p ∧ isP sz q ∧ K q = K p) p
    omega
theorem cells_3 {nu sz : Nat → Int} (hs : SzOk sz) (h2 : Nu2 nu) (hfi : nu 3 ≠ 0 ∨ nu 4 ≠ 0 ∨ nu 5 ≠ 0) (hg : crG nu 0 1 = 0) : metZ nu sz ↔ difK sz (keyZ nu sz 1) 512 ≠ sz 0 * sz 1 * sz 2 := by
  obtain ⟨gI, gJ, gK⟩ := gcd_0 hg
  have gI : nu 1 * nu 5 - nu 2 * nu 4 = 0 := gI
  have gJ : nu 2 * nu 3 - nu 0 * nu 5 = 0 := gJ
  have gK : nu 0 * nu 4 - nu 1 * nu 3 = 0 := gK
  rw [dif_ne hs]
  constructor
  · rintro ⟨i, j, l, i0, i1, j0, j1, l0, l1, nz, e0, e1, e2⟩
    have mk : ∃ p q : Nat, isP sz p ∧ isP sz q ∧ ((p / 64 : Nat) : Int) - ((q / 64 : Nat) : Int) = i ∧ ((p / 8 % 8 : Nat) : Int) - ((q / 8 % 8 : Nat) : Int) = j ∧ ((p % 8 : Nat) : Int) - ((q % 8 : Nat) : Int) = l := by
      refine ⟨(64 * i + 8 * max 0 j + max 0 l).toNat, (8 * max 0 (-j) + max 0 (-l)).toNat, ?_, ?_, ?_, ?_, ?_⟩ <;> omega
    obtain ⟨p, q, hp, hq, d0, d1, d2⟩ := mk
    have ke : keyZ nu sz 1 q = keyZ nu sz 1 p := (key_eq (Nu2_3 h2) hs hp hq).mpr (by rw [d0, d1, d2]; exact ⟨e1, e2⟩)
    rcases Nat.lt_trichotomy q p with g | g | g
    · exact ⟨p, q, g, hp, hq, ke⟩
    · exfalso; subst g; omega
    · exact ⟨q, p, g, hq, hp, ke.symm⟩
  · rintro ⟨p, q, hlt, hp, hq, ke⟩
    obtain ⟨e1, e2⟩ := (key_eq (Nu2_3 h2) hs hp hq).mp ke
    refine ⟨((p / 64 : Nat) : Int) - ((q / 64 : Nat) : Int), ((p / 8 % 8 : Nat) : Int) - ((q / 8 % 8 : Nat) : Int), ((p % 8 : Nat) : Int) - ((q % 8 : Nat) : Int), by omega, by omega, by omega, by omega, by omega, by omega, by omega, ?_, e1, e2⟩
    exact par_dot (s0 := nu 3) (s1 := nu 4) (s2 := nu 5) hfi (by grind) (by grind) (by grind) e1
theorem cells_ok {nu sz : Nat → Int} (hs : SzOk sz) (h2 : Nu2 nu) (hfi : nu 3 ≠ 0 ∨ nu 4 ≠ 0 ∨ nu 5 ≠ 0) : cellsOk nu sz := ⟨fun hg => cells_1 hs h2 hg, fun hg => cells_2 hg, fun hg => cells_3 hs h2 hfi hg⟩
