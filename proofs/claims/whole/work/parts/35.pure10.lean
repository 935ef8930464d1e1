/-! counting the points; plain working does not ask what stood there; a right laying goes forward -/
theorem cnt8 {P Q : Nat → Prop} {c : Int} (h0 : 0 ≤ c) (h8 : c ≤ 8) (h : ∀ p : Nat, P p ↔ Q (p / 8) ∧ ((p % 8 : Nat) : Int) < c) : ∀ n : Nat, cnt P (8 * n) = c * cnt Q n := by
  intro n
  induction n with
  | zero => exact (Int.mul_zero c).symm
  | succ n ih =>
    have st : ∀ r : Nat, r < 8 → Q n → cnt P (8 * n + r + 1) = cnt P (8 * n + r) + min 1 (max 0 (c - r)) := by
      intro r hr q
      have e1 : (8 * n + r) / 8 = n := by omega
      have e2 : (8 * n + r) % 8 = r := by omega
      by_cases g : (r : Int) < c
      · rw [cnt_t (P := P) ((h _).mpr ⟨by rw [e1]; exact q, by rw [e2]; exact g⟩)]
        omega
      · rw [cnt_f (P := P) (fun z => g (by have := ((h _).mp z).2; rw [e2] at this; exact this))]
        omega
    have sf : ∀ r : Nat, r < 8 → ¬ Q n → cnt P (8 * n + r + 1) = cnt P (8 * n + r) := by
      intro r hr q
      have e1 : (8 * n + r) / 8 = n := by omega
      exact cnt_f (fun z => q (by have := ((h _).mp z).1; rw [e1] at this; exact this))
    show cnt P (8 * n + 8) = _
    by_cases q : Q n
    · rw [cnt_t q, Int.mul_add, ← ih]
      have a0 : cnt P (8 * n + 1) = cnt P (8 * n) + min 1 (max 0 (c - ((0 : Nat) : Int))) := st 0 (by omega) q
      have a1 : cnt P (8 * n + 2) = cnt P (8 * n + 1) + min 1 (max 0 (c - ((1 : Nat) : Int))) := st 1 (by omega) q
      have a2 : cnt P (8 * n + 3) = cnt P (8 * n + 2) + min 1 (max 0 (c - ((2 : Nat) : Int))) := st 2 (by omega) q
      have a3 : cnt P (8 * n + 4) = cnt P (8 * n + 3) + min 1 (max 0 (c - ((3 : Nat) : Int))) := st 3 (by omega) q
      have a4 : cnt P (8 * n + 5) = cnt P (8 * n + 4) + min 1 (max 0 (c - ((4 : Nat) : Int))) := st 4 (by omega) q
      have a5 : cnt P (8 * n + 6) = cnt P (8 * n + 5) + min 1 (max 0 (c - ((5 : Nat) : Int))) := st 5 (by omega) q
      have a6 : cnt P (8 * n + 7) = cnt P (8 * n + 6) + min 1 (max 0 (c - ((6 : Nat) : Int))) := st 6 (by omega) q
      have a7 : cnt P (8 * n + 8) = cnt P (8 * n + 7) + min 1 (max 0 (c - ((7 : Nat) : Int))) := st 7 (by omega) q
      omega
    · rw [cnt_f q, ← ih]
      have a0 : cnt P (8 * n + 1) = cnt P (8 * n) := sf 0 (by omega) q
      have a1 : cnt P (8 * n + 2) = cnt P (8 * n + 1) := sf 1 (by omega) q
      have a2 : cnt P (8 * n + 3) = cnt P (8 * n + 2) := sf 2 (by omega) q
      have a3 : cnt P (8 * n + 4) = cnt P (8 * n + 3) := sf 3 (by omega) q
      have a4 : cnt P (8 * n + 5) = cnt P (8 * n + 4) := sf 4 (by omega) q
      have a5 : cnt P (8 * n + 6) = cnt P (8 * n + 5) := sf 5 (by omega) q
      have a6 : cnt P (8 * n + 7) = cnt P (8 * n + 6) := sf 6 (by omega) q
      have a7 : cnt P (8 * n + 8) = cnt P (8 * n + 7) := sf 7 (by omega) q
      omega
theorem cnt_isP {sz : Nat → Int} (hs : SzOk sz) : cnt (isP sz) 512 = sz 0 * sz 1 * sz 2 := by
  have a := cnt8 (P := isP sz) (Q := fun q => ((q / 8 : Nat) : Int) < sz 0 ∧ ((q % 8 : Nat) : Int) < sz 1) (c := sz 2) (by omega) (by omega) (fun p => by
    have e : p / 8 / 8 = p / 64 := by omega
    constructor
    · rintro ⟨x, y, z⟩
      exact ⟨⟨by rw [e]; exact x, y⟩, z⟩
    · rintro ⟨⟨x, y⟩, z⟩
      exact ⟨by rw [e] at x; exact x, y, z⟩) 64
  have b := cnt8 (P := fun q => ((q / 8 : Nat) : Int) < sz 0 ∧ ((q % 8 : Nat) : Int) < sz 1) (Q := fun q => (q : Int) < sz 0) (c := sz 1) (by omega) (by omega) (fun p => Iff.rfl) 8
  have c := cnt8 (P := fun q => (q : Int) < sz 0) (Q := fun q => q = 0) (c := sz 0) (by omega) (by omega) (fun p => by
    constructor
    · intro x
      have : p / 8 = 0 := by omega
      exact ⟨this, by omega⟩
    · rintro ⟨x, y⟩
      omega) 1
  have d : cnt (fun q => q = 0) 1 = 1 := cnt_t (P := fun q => q = 0) (n := 0) rfl
  rw [d, Int.mul_one] at c
  have b' : cnt (fun q => ((q / 8 : Nat) : Int) < sz 0 ∧ ((q % 8 : Nat) : Int) < sz 1) 64 = sz 1 * sz 0 := by
    have c' : cnt (fun q => (q : Int) < sz 0) 8 = sz 0 := c
    rw [c'] at b; exact b
  have a' : cnt (isP sz) 512 = sz 2 * cnt (fun q => ((q / 8 : Nat) : Int) < sz 0 ∧ ((q % 8 : Nat) : Int) < sz 1) 64 := a
  rw [a', b', Int.mul_comm, Int.mul_comm (sz 1)]
theorem np_eq {sz co : Nat → Int} {np : Nat} (hs : SzOk sz) (h : CdOk sz co np) : (np : Int) = sz 0 * sz 1 * sz 2 := by rw [h.2.2.2.1, cnt_isP hs]
/-- what a point's work reads lies at other points -/
theorem step_lt {sz st : Nat → Int} {v p : Nat} {nv : Nat} (hs : SzOk sz) (hl : LdOk st nv) (hst : StOk st) (hv : v < nv) (hv4 : v < 4) (hp : isP sz p) (h : stepZ sz st v p (-1) ≠ -1) : (stepZ sz st v p (-1)).toNat < p := by
  have l := hl v hv
  have s0 := hst (3 * v) (by omega)
  have s1 := hst (3 * v + 1) (by omega)
  have s2 := hst (3 * v + 2) (by omega)
  unfold stepZ codeZ at h ⊢
  split
  · rename_i g
    omega
  · rename_i g
    rw [if_neg g] at h
    exact absurd rfl h
theorem wkA_o {sz st ac lf rt ed ar : Nat → Int} {p : Nat} : ∀ (n q : Nat), (∀ v : Nat, v < n → q ≠ 512 * v + p) → wkA sz st ac lf rt ed ar p n q = ar q := by
  intro n
  induction n with
  | zero => intro q _; rfl
  | succ n ih =>
    intro q hq
    show up1 _ _ _ q = _
    rw [up1_n (hq n (by omega))]
    exact ih q (fun v hv => hq v (by omega))
theorem come_c {sz st ed ar br : Nat → Int} {v p nv : Nat} (hs : SzOk sz) (hl : LdOk st nv) (hst : StOk st) (hn4 : nv ≤ 4) (hv : v < nv) (hp : isP sz p) (h : ∀ q : Nat, isP sz q → q < p → ar (512 * v + q) = br (512 * v + q)) : comeZ sz st ed ar v p = comeZ sz st ed br v p := by
  unfold comeZ
  by_cases e : stepZ sz st v p (-1) = -1
  · rw [if_pos e, if_pos e]
  · rw [if_neg e, if_neg e]
    exact h _ (step_isP hs e) (step_lt hs hl hst hv (by omega) hp e)
theorem wkA_ind {sz st ac lf rt ed ar br : Nat → Int} {p nv : Nat} (hs : SzOk sz) (hl : LdOk st nv) (hst : StOk st) (hn4 : nv ≤ 4) (hlf : ∀ v : Nat, v < nv → 0 ≤ lf v ∧ lf v < nv) (hrt : ∀ v : Nat, v < nv → 0 ≤ rt v ∧ rt v < nv) (hp : isP sz p) (h : ∀ v q : Nat, v < nv → isP sz q → q < p → ar (512 * v + q) = br (512 * v + q)) : ∀ n : Nat, n ≤ nv → ∀ v q : Nat, v < nv → isP sz q → (q < p ∨ (q = p ∧ v < n)) → wkA sz st ac lf rt ed ar p n (512 * v + q) = wkA sz st ac lf rt ed br p n (512 * v + q) := by
  have hp5 := isP_lt hs hp
  intro n
  induction n with
  | zero =>
    intro _ v q hv hq g
    rcases g with g | g
    · exact h v q hv hq g
    · omega
  | succ n ih =>
    intro hn v q hv hq g
    have hq5 := isP_lt hs hq
    show up1 _ _ _ _ = up1 _ _ _ _
    by_cases e : 512 * v + q = 512 * n + p
    · rw [e, up1_s, up1_s]
      have l := hlf n (by omega)
      have r := hrt n (by omega)
      rw [come_c hs hl hst hn4 (show n < nv by omega) hp (fun q hq g => ih (by omega) n q (by omega) hq (Or.inl g)), come_c (v := (lf n).toNat) hs hl hst hn4 (by omega) hp (fun q hq g => ih (by omega) _ q (by omega) hq (Or.inl g)), come_c (v := (rt n).toNat) hs hl hst hn4 (by omega) hp (fun q hq g => ih (by omega) _ q (by omega) hq (Or.inl g))]
    · rw [up1_n e, up1_n e]
      refine ih (by omega) v q hv hq ?_
      rcases g with g | ⟨g1, g2⟩
      · exact Or.inl g
      · refine Or.inr ⟨g1, ?_⟩
        rcases Nat.lt_succ_iff_lt_or_eq.mp g2 with i | i
        · exact i
        · rw [g1, i] at e; exact absurd rfl e
theorem plA_ind {sz st ac lf rt ed ar br : Nat → Int} {nv : Nat} (hs : SzOk sz) (hl : LdOk st nv) (hst : StOk st) (hn4 : nv ≤ 4) (hlf : ∀ v : Nat, v < nv → 0 ≤ lf v ∧ lf v < nv) (hrt : ∀ v : Nat, v < nv → 0 ≤ rt v ∧ rt v < nv) : ∀ t v q : Nat, v < nv → isP sz q → q < t → plA sz st ac lf rt ed nv ar t (512 * v + q) = plA sz st ac lf rt ed nv br t (512 * v + q) := by
  intro t
  induction t with
  | zero => intro v q _ _ h; exact absurd h (Nat.not_lt_zero _)
  | succ t ih =>
    intro v q hv hq h
    by_cases p : isP sz t
    · rw [plA_p p, plA_p p]
      refine wkA_ind hs hl hst hn4 hlf hrt p (fun v q hv hq g => ih v q hv hq g) nv (Nat.le_refl _) v q hv hq ?_
      rcases Nat.lt_succ_iff_lt_or_eq.mp h with i | i
      · exact Or.inl i
      · exact Or.inr ⟨i, hv⟩
    · rw [plA_n p, plA_n p]
      refine ih v q hv hq ?_
      rcases Nat.lt_succ_iff_lt_or_eq.mp h with i | i
      · exact i
      · rw [i] at hq; exact absurd hq p
theorem beat_lt {f a b c d : Int} (h1 : 1 ≤ f) (h2 : f ≤ 8) (h : a + 1 ≤ b) (hc : 0 ≤ c) (hd : 0 ≤ d) : f * a + c % f < f * b + d % f := by
  rcases (show f = 1 ∨ f = 2 ∨ f = 3 ∨ f = 4 ∨ f = 5 ∨ f = 6 ∨ f = 7 ∨ f = 8 by omega) with rfl | rfl | rfl | rfl | rfl | rfl | rfl | rfl <;> omega
theorem right_nx {nu sz st : Nat → Int} {f : Int} {nv v p : Nat} (hn : NuOk nu) (hs : SzOk sz) (hst : StOk st) (h1 : 1 ≤ f) (h2 : f ≤ 8) (hr : ∀ v : Nat, v < nv → ¬ earP nu sz st v) (hn4 : nv ≤ 4) (hv : v < nv) (h : nxP sz st v p) : isP sz (stepZ sz st v p 1).toNat ∧ beatZ nu sz f p < beatZ nu sz f (stepZ sz st v p 1).toNat := by
  have hq := step_isP hs h.2
  refine ⟨hq, ?_⟩
  have hp5 := isP_lt hs h.1
  have s0 := hst (3 * v) (by omega)
  have s1 := hst (3 * v + 1) (by omega)
  have s2 := hst (3 * v + 2) (by omega)
  have hne := h.2
  have key : ∃ q : Nat, (stepZ sz st v p 1).toNat = q ∧ ((q / 64 : Nat) : Int) = ((p / 64 : Nat) : Int) + st (3 * v) ∧ ((q / 8 % 8 : Nat) : Int) = ((p / 8 % 8 : Nat) : Int) + st (3 * v + 1) ∧ ((q % 8 : Nat) : Int) = ((p % 8 : Nat) : Int) + st (3 * v + 2) := by
    refine ⟨_, rfl, ?_⟩
    unfold stepZ codeZ at hne ⊢
    split
    · rename_i g
      rw [Int.one_mul, Int.one_mul, Int.one_mul] at g ⊢
      omega
    · rename_i g
      rw [if_neg g] at hne
      exact absurd rfl hne
  obtain ⟨q, e, k0, k1, k2⟩ := key
  rw [e] at hq ⊢
  have need : needP sz st v := by
    have hp := h.1
    refine ⟨?_, ?_, ?_⟩
    · rw [aZ_le]; omega
    · rw [aZ_le]; omega
    · rw [aZ_le]; omega
  have dl : 1 ≤ stepB nu st 0 v := by
    have := hr v hv
    rcases Int.lt_or_le (stepB nu st 0 v) 1 with g | g
    · exact absurd ⟨need, g⟩ this
    · exact g
  have at0 : atZ nu sz 0 q = atZ nu sz 0 p + stepB nu st 0 v := by
    unfold atZ dotP dotZ stepB
    rw [k0, k1, k2, Int.mul_add, Int.mul_add, Int.mul_add]
    omega
  unfold beatZ
  have b1 := atZ_b (h := 1) hn hs (by omega) h.1
  have b2 := atZ_b (h := 1) hn hs (by omega) hq
  exact beat_lt h1 h2 (by omega) b1.1 b2.1
theorem isFst_c {P Q : Nat → Prop} {n : Nat} {z : Int} (h : ∀ v : Nat, P v ↔ Q v) (a : isFst P n z) : isFst Q n z := by
  rcases a with ⟨e, f⟩ | ⟨v, b, c, d, e⟩
  · exact Or.inl ⟨e, fun v hv q => f v hv ((h v).mpr q)⟩
  · exact Or.inr ⟨v, b, c, (h v).mp d, fun u hu q => e u hu ((h u).mpr q)⟩
theorem rea_rig {nu sz st : Nat → Int} {nv : Nat} {M1 : Mem} {z : Int} (hm : M1 12 3 = 1 → (M1 12 6 ≠ -1 ↔ metZ nu sz)) (h : reaR nu sz st nv M1 z) : z = 0 → rigP nu sz st nv := by
  obtain ⟨e, f, he, hf, h⟩ := h
  intro hz
  rcases h with ⟨a, b⟩ | ⟨a, b, c⟩ | ⟨a, b, c, d, g⟩ | ⟨a, b, c, d, g⟩ <;> try omega
  exact ⟨(isFst_neg he).mp a, (isFst_neg hf).mp b, fun q => (hm c).mpr q d⟩
theorem rea_nrig {nu sz st : Nat → Int} {nv : Nat} {M1 : Mem} {z : Int} (hm : M1 12 3 = 1 → (M1 12 6 ≠ -1 ↔ metZ nu sz)) (h : reaR nu sz st nv M1 z) : z ≠ 0 → ¬ rigP nu sz st nv := by
  obtain ⟨e, f, he, hf, h⟩ := h
  intro hz r
  rcases h with ⟨a, b⟩ | ⟨a, b, c⟩ | ⟨a, b, c, d, g⟩ | ⟨a, b, c, d, g⟩
  · have := (isFst_neg he).mpr r.1; omega
  · have := (isFst_neg hf).mpr r.2.1; omega
  · omega
  · exact r.2.2 ((hm c).mp d)
theorem inv_met {M M1 : Mem} {nv np : Nat} (h : setS M M1 nv np) : M1 12 3 = 1 → (M1 12 6 ≠ -1 ↔ metZ (M 11) (M 2)) := by
  intro hk
  obtain ⟨r2, r4, r11, r10⟩ := fr_rows h
  obtain ⟨hs, hnv, hn4, hnp, hcd, hst, hac, hlf, hrt, hed, har9, hvk, hVk, hld, hnu, hf, h11, h21, h23, hkn, hpl, -⟩ := h.1
  have p := (hpl hk).2.2.2.2
  rw [r2, r11, r10] at p
  rw [r2] at hs
  rw [r11] at hnu
  rw [r10] at hf
  exact met_la hnu hs hf.1 hf.2 p
theorem rea_k {nu sz st : Nat → Int} {nv : Nat} {M1 : Mem} {z : Int} (h : reaR nu sz st nv M1 z) (hz : z = 0) : M1 12 3 = 1 := by
  obtain ⟨e, f, -, -, h⟩ := h
  omega
theorem inv_18 {M M1 : Mem} {nv np : Nat} {bt : Nat → Int} (h : setS M M1 nv np) (h0 : ∀ d : Nat, bt d = 0 ∨ bt d = 1) (h5 : ∀ d : Nat, 512 ≤ d → bt d = 0) : setS M (ups M1 18 bt) nv np := by
  obtain ⟨⟨hs, hnv, hn4, hnp, hcd, hst, hac, hlf, hrt, hed, har9, hvk, hVk, hld, hnu, hf, h11, h21, h23, hkn, hpl, hl0, hb0, hb5, hth, hrn, har26, hb25⟩, hfr⟩ := h
  exact ⟨⟨hs, hnv, hn4, hnp, hcd, hst, hac, hlf, hrt, hed, har9, hvk, hVk, hld, hnu, hf, h11, h21, h23, hkn, hpl, hl0, h0, h5, hth, hrn, har26, hb25⟩, fun j hj => by rw [ups_n (by omega)]; exact hfr j hj⟩
def runS (M M1 : Mem) (nv np : Nat) : Prop := CInv M1 nv np ∧ M1 25 0 = 1 ∧ ∀ h : Nat, h < 12 ∨ (18 < h ∧ h < 25) ∨ 29 < h → M1 h = M h
def plnS (M M1 : Mem) (nv np : Nat) : Prop := CInv M1 nv np ∧ (∀ h : Nat, h ≠ 1 → h ≠ 9 → M1 h = M h) ∧ ∀ q : Nat, q ≠ 10 → M1 1 q = M 1 q
theorem plnS_rf {M : Mem} {nv np : Nat} (h : CInv M nv np) : plnS M M nv np := ⟨h, fun _ _ _ => rfl, fun _ _ => rfl⟩
theorem inv_pln {M M1 : Mem} {nv np v p : Nat} {z : Int} (hI : CInv M nv np) (hv : v < nv) (hp : isP (M 2) p) (h : (M 1 10 = 1 ∧ z = M 9 (512 * v + p) ∧ M1 = M) ∨ (M 1 10 = 0 ∧ z = plA (M 2) (M 4) (M 5) (M 6) (M 7) (M 8) nv (M 9) 512 (512 * v + p) ∧ M1 = ups (ups M 9 (plA (M 2) (M 4) (M 5) (M 6) (M 7) (M 8) nv (M 9) 512)) 1 (up1 (M 1) 10 1))) : z = plA (M 2) (M 4) (M 5) (M 6) (M 7) (M 8) nv (fun _ => 0) 512 (512 * v + p) ∧ plnS M M1 nv np := by
  obtain ⟨hs, hnv, hn4, hnp, hcd, hst, hac, hlf, hrt, hed, har9, hvk, hVk, hld, hnu, hf, h11, h21, h23, hkn, hpl, hl0, hb0, hb5, hth, hrn, har26, hb25⟩ := id hI
  rcases h with ⟨a, b, c⟩ | ⟨a, b, c⟩
  · exact ⟨by rw [b]; exact hVk a v p hv hp, by rw [c]; exact plnS_rf hI⟩
  · have ind : ∀ v p : Nat, v < nv → isP (M 2) p → plA (M 2) (M 4) (M 5) (M 6) (M 7) (M 8) nv (M 9) 512 (512 * v + p) = plA (M 2) (M 4) (M 5) (M 6) (M 7) (M 8) nv (fun _ => 0) 512 (512 * v + p) := fun v p hv hp => plA_ind hs hld hst hn4 hlf hrt 512 v p hv hp (isP_lt hs hp)
    refine ⟨by rw [b]; exact ind v p hv hp, ?_⟩
    subst c
    refine ⟨⟨hs, hnv, hn4, hnp, hcd, hst, hac, hlf, hrt, hed, fun q => plA_R hed har9 512 q, Or.inr rfl, fun _ v p hv hp => ind v p hv hp, hld, hnu, hf, h11, h21, h23, hkn, hpl, hl0, hb0, hb5, hth, hrn, har26, hb25⟩, fun j h1 h2 => by rw [ups_n h1, ups_n h2], fun q hq => ?_⟩
    show up1 (M 1) 10 1 q = M 1 q
    rw [up1_n hq]
theorem inv_run {M M0 : Mem} {nv np bt : Nat} {stt od he : Nat → Int} (hse : setS M M0 nv np) (hk : M0 12 3 = 1) (hb : M0 12 4 = (bt : Int)) (hb5 : bt ≤ 512) (ho : SoOk (M0 2) (beatZ (M0 11) (M0 2) (M0 10 1)) bt stt od) (hh : ∀ b : Nat, b < bt → he b = hsu (M0 2) (M0 4) (beatZ (M0 11) (M0 2) (M0 10 1)) (b : Int) nv) {ar : Nat → Int} (hR : ∀ q : Nat, R32 (ar q)) : runS M (ups (ups (ups (ups (ups M0 25 (up1 (up1 (M0 25) 3 ((bt : Nat) : Int)) 0 1)) 29 stt) 28 od) 26 ar) 27 he) nv np := by
  obtain ⟨⟨hs, hnv, hn4, hnp, hcd, hst, hac, hlf, hrt, hed, har9, hvk, hVk, hld, hnu, hf, h11, h21, h23, hkn, hpl, hl0, hb0, hb5', hth, hrn, har26, hb25⟩, hfr⟩ := hse
  refine ⟨⟨hs, hnv, hn4, hnp, hcd, hst, hac, hlf, hrt, hed, har9, hvk, hVk, hld, hnu, hf, h11, h21, h23, hkn, hpl, hl0, hb0, hb5', Or.inr rfl, fun _ => ⟨hk, bt, rfl, hb, ho, hh⟩, hR, ?_⟩, rfl, fun h hh => ?_⟩
  · show 0 ≤ ((bt : Nat) : Int) ∧ ((bt : Nat) : Int) ≤ 512
    omega
  · rw [ups_n (by omega), ups_n (by omega), ups_n (by omega), ups_n (by omega), ups_n (by omega)]
    exact hfr h (by omega)
theorem nth_b {P : Nat → Prop} {n z : Int} (h : nthR P n z) : -1 ≤ z ∧ z < 512 := by
  rcases h with ⟨p, a, b, -⟩ | ⟨a, -⟩ <;> omega
theorem nth_P {P : Nat → Prop} {n z : Int} (h : nthR P n z) (hz : z ≠ -1) : P z.toNat := by
  rcases h with ⟨p, a, b, c, -⟩ | ⟨a, -⟩
  · rw [b, Int.toNat_natCast]; exact c
  · exact absurd a hz
theorem ldd_3 {M M0 M1 : Mem} {nv np : Nat} {x z : Int} (hs : SzOk (M0 2)) (hse : setS M M0 nv np) (hpl : PlOk (M0 11) (M0 2) (M0 10 1) (M0 13) (M0 14) (M0 15) (M0 17) (M0 12 4) (M0 12 5) (M0 12 6) (M0 12 7)) (hx : x = 3) (h : (M0 12 6 ≠ -1 ∧ z = -1 ∧ M1 = M0) ∨ (M0 12 6 = -1 ∧ apR (dsP (M0 2) (keyZ (M0 11) (M0 2) (M0 10 1)) (M0 13) 512) z ∧ ∃ bt : Nat → Int, (∀ d : Nat, bt d = 0 ∨ bt d = 1) ∧ (∀ d : Nat, 512 ≤ d → bt d = 0) ∧ M1 = ups M0 18 bt)) : lddR (M 11) (M 2) (M 10 1) x z ∧ setS M M1 nv np := by
  obtain ⟨r2, r4, r11, r10⟩ := fr_rows hse
  have hm := ds0_met hpl.2.2.2.2 hs
  have hd : ∀ d : Nat, dsP (M0 2) (keyZ (M0 11) (M0 2) (M0 10 1)) (M0 13) 512 d ↔ dsP (M0 2) (keyZ (M0 11) (M0 2) (M0 10 1)) (beatZ (M0 11) (M0 2) (M0 10 1)) 512 d := fun d => ⟨dsP_c (fun p hp => (hpl.1 p hp).1) (fun _ _ => rfl), dsP_c (fun p hp => ((hpl.1 p hp).1).symm) (fun _ _ => rfl)⟩
  rw [r2, r11, r10] at hm hd
  rcases h with ⟨a, b, c⟩ | ⟨a, b, bt, c, d, e⟩
  · rw [c]
    exact ⟨Or.inr (Or.inr (Or.inr (Or.inl ⟨hx, Or.inl ⟨hm.mp a, b⟩⟩))), hse⟩
  · rw [e]
    rw [r2, r11, r10] at b
    exact ⟨Or.inr (Or.inr (Or.inr (Or.inl ⟨hx, Or.inr ⟨fun q => hm.mpr q a, apR_c hd b⟩⟩))), inv_18 hse c d⟩
theorem run_end {M M0 M1 : Mem} {nv np bt : Nat} {z : Int} (hse : setS M M0 nv np) (hr : rigP (M 11) (M 2) (M 4) nv) (hk : M0 12 3 = 1) (hb : M0 12 4 = (bt : Int)) (h : z = (np : Int) ∧ ∃ stt od he : Nat → Int, SoOk (M0 2) (beatZ (M0 11) (M0 2) (M0 10 1)) bt stt od ∧ (∀ b : Nat, b < bt → he b = hsu (M0 2) (M0 4) (beatZ (M0 11) (M0 2) (M0 10 1)) (b : Int) nv) ∧ M1 = ups (ups (ups (ups (ups M0 25 (up1 (up1 (M0 25) 3 ((bt : Nat) : Int)) 0 1)) 29 stt) 28 od) 26 (outB (M0 2) (M0 4) (M0 5) (M0 6) (M0 7) (M0 8) (beatZ (M0 11) (M0 2) (M0 10 1)) nv (M0 26) bt)) 27 he) : (rigP (M 11) (M 2) (M 4) nv ∧ z = M 2 0 * M 2 1 * M 2 2 ∧ ∃ bt : Nat, beaR (M 2) (beatZ (M 11) (M 2) (M 10 1)) 512 (bt : Int) ∧ M1 26 = outB (M 2) (M 4) (M 5) (M 6) (M 7) (M 8) (beatZ (M 11) (M 2) (M 10 1)) nv (M 26) bt ∧ runS M M1 nv np) ∨ (¬ rigP (M 11) (M 2) (M 4) nv ∧ z = -1 ∧ setS M M1 nv np) := by
  obtain ⟨hz, stt, od, he, h1, h2, h3⟩ := h
  obtain ⟨r2, r4, r11, r10⟩ := fr_rows hse
  have r5 := hse.2 5 (by omega)
  have r6 := hse.2 6 (by omega)
  have r7 := hse.2 7 (by omega)
  have r8 := hse.2 8 (by omega)
  have r26 := hse.2 26 (by omega)
  obtain ⟨hs, hnv, hn4, hnp, hcd, hst, hac, hlf, hrt, hed, har9, hvk, hVk, hld, hnu, hf, h11, h21, h23, hkn, hpl, hl0, hb0, hb5, hth, hrn, har26, hb25⟩ := id hse.1
  have hp := hpl hk
  have hR := pl_R hnu hs hf.1 hf.2 hp
  have hrun := inv_run hse hk hb (by have := hR.1; omega) h1 h2 (ar := outB (M0 2) (M0 4) (M0 5) (M0 6) (M0 7) (M0 8) (beatZ (M0 11) (M0 2) (M0 10 1)) nv (M0 26) bt) (fun q => outB_R hed har26 bt q)
  have hnp9 := np_eq hs hcd
  rw [r2] at hnp9
  refine Or.inl ⟨hr, by rw [hz]; exact hnp9, bt, ?_, ?_, by rw [h3]; exact hrun⟩
  · have := hp.2.2.1
    rw [r2, r11, r10, hb] at this
    exact this
  · rw [h3, r2, r4, r5, r6, r7, r8, r11, r10, r26]
    rfl
theorem wkd_t {M : Mem} {nv np : Nat} {b c d z : Int} (hs : SzOk (M 2)) (hI : CInv M nv np) (hc : M 25 0 = 1 ∧ 0 ≤ b ∧ b < M 25 3) (hp : PlOk (M 11) (M 2) (M 10 1) (M 13) (M 14) (M 15) (M 17) (M 12 4) (M 12 5) (M 12 6) (M 12 7)) (h : isFst (fun p => isP (M 2) p ∧ beatZ (M 11) (M 2) (M 10 1) p = ((b.toNat : Nat) : Int) ∧ M 14 p = c ∧ M 15 p = d) 512 z) : ((M 25 0 = 0 ∧ z = -1) ∨ (M 25 0 = 1 ∧ isFst (fun p => isP (M 2) p ∧ beatZ (M 11) (M 2) (M 10 1) p = b ∧ cellZ (M 11) (M 2) (M 10 1) p = c ∧ atZ (M 11) (M 2) 2 p = d) 512 z)) ∧ M = M := by
  refine ⟨Or.inr ⟨hc.1, isFst_c (fun p => ?_) h⟩, rfl⟩
  have e : ((b.toNat : Nat) : Int) = b := by omega
  rw [e]
  constructor
  · rintro ⟨x, y, u, v⟩
    have g := hp.1 p x
    exact ⟨x, y, by rw [← g.2.1]; exact u, by rw [← g.2.2]; exact v⟩
  · rintro ⟨x, y, u, v⟩
    have g := hp.1 p x
    exact ⟨x, y, by rw [g.2.1]; exact u, by rw [g.2.2]; exact v⟩
theorem wkd_f {M : Mem} {nv np : Nat} {b c d : Int} (hs : SzOk (M 2)) (hI : CInv M nv np) (hc : ¬ (M 25 0 = 1 ∧ 0 ≤ b ∧ b < M 25 3)) : ((M 25 0 = 0 ∧ (-1 : Int) = -1) ∨ (M 25 0 = 1 ∧ isFst (fun p => isP (M 2) p ∧ beatZ (M 11) (M 2) (M 10 1) p = b ∧ cellZ (M 11) (M 2) (M 10 1) p = c ∧ atZ (M 11) (M 2) 2 p = d) 512 (-1))) ∧ M = M := by
  obtain ⟨-, hnv, hn4, hnp, hcd, hst, hac, hlf, hrt, hed, har9, hvk, hVk, hld, hnu, hf, h11, h21, h23, hkn, hpl, hl0, hb0, hb5, hth, hrn, har26, hb25⟩ := hI
  rcases hth with e | e
  · exact ⟨Or.inl ⟨e, rfl⟩, rfl⟩
  · refine ⟨Or.inr ⟨e, Or.inl ⟨rfl, fun p _ g => ?_⟩⟩, rfl⟩
    obtain ⟨hk, bt, a1, a2, -⟩ := hrn e
    have hR := (pl_R hnu hs hf.1 hf.2 (hpl hk)).2.2.2.2 p g.1
    have := g.2.1
    rw [← hR.1] at this
    refine hc ⟨e, ?_, ?_⟩ <;> omega
theorem hld_t {M : Mem} {nv np : Nat} {b : Int} (hI : CInv M nv np) (hc : M 25 0 = 1 ∧ 0 ≤ b ∧ b < M 25 3) : ((M 25 0 = 0 ∧ M 27 b.toNat = -1) ∨ (M 25 0 = 1 ∧ ∃ y : Int, beaR (M 2) (beatZ (M 11) (M 2) (M 10 1)) 512 y ∧ ((¬ (0 ≤ b ∧ b < y) ∧ M 27 b.toNat = -1) ∨ ((0 ≤ b ∧ b < y) ∧ M 27 b.toNat = hsu (M 2) (M 4) (beatZ (M 11) (M 2) (M 10 1)) b nv)))) ∧ M = M := by
  obtain ⟨hs, hnv, hn4, hnp, hcd, hst, hac, hlf, hrt, hed, har9, hvk, hVk, hld, hnu, hf, h11, h21, h23, hkn, hpl, hl0, hb0, hb5, hth, hrn, har26, hb25⟩ := hI
  obtain ⟨hk, bt, a1, a2, a3, a4⟩ := hrn hc.1
  refine ⟨Or.inr ⟨hc.1, M 12 4, (hpl hk).2.2.1, Or.inr ⟨by omega, ?_⟩⟩, rfl⟩
  rw [a4 b.toNat (by omega), show ((b.toNat : Nat) : Int) = b by omega]
theorem hld_f {M : Mem} {nv np : Nat} {b : Int} (hI : CInv M nv np) (hc : ¬ (M 25 0 = 1 ∧ 0 ≤ b ∧ b < M 25 3)) : ((M 25 0 = 0 ∧ (-1 : Int) = -1) ∨ (M 25 0 = 1 ∧ ∃ y : Int, beaR (M 2) (beatZ (M 11) (M 2) (M 10 1)) 512 y ∧ ((¬ (0 ≤ b ∧ b < y) ∧ (-1 : Int) = -1) ∨ ((0 ≤ b ∧ b < y) ∧ (-1 : Int) = hsu (M 2) (M 4) (beatZ (M 11) (M 2) (M 10 1)) b nv)))) ∧ M = M := by
  obtain ⟨hs, hnv, hn4, hnp, hcd, hst, hac, hlf, hrt, hed, har9, hvk, hVk, hld, hnu, hf, h11, h21, h23, hkn, hpl, hl0, hb0, hb5, hth, hrn, har26, hb25⟩ := hI
  rcases hth with e | e
  · exact ⟨Or.inl ⟨e, rfl⟩, rfl⟩
  · obtain ⟨hk, bt, a1, a2, a3, a4⟩ := hrn e
    exact ⟨Or.inr ⟨e, M 12 4, (hpl hk).2.2.1, Or.inl ⟨by omega, rfl⟩⟩, rfl⟩
