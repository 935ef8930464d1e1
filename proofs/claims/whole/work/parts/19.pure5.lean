/-! one more point of the row of all points is placed -/
theorem bd_lt {sz co : Nat → Int} {np t u : Nat} (h : CdOk sz co np) (ht : t < np) (hu : isP sz u) : u < bdN co np (t + 1) ↔ u < bdN co np t ∨ u = (co t).toNat := by
  rw [bdN_in ht]
  have a := bd_le h ht
  constructor
  · intro q
    rcases Nat.lt_trichotomy u (co t).toNat with b | b | b
    · exact Or.inl b
    · exact Or.inr b
    · exact absurd hu (bd_gap h ht u b q)
  · intro q
    omega
theorem bd_512 {sz co : Nat → Int} {np t : Nat} (h : CdOk sz co np) : bdN co np t ≤ 512 := by
  unfold bdN
  split
  · exact Nat.le_of_lt (h.1 t (by assumption)).2.1
  · exact Nat.le_refl _
theorem pl_bea {sz co be : Nat → Int} {np t : Nat} {z : Int} (h : CdOk sz co np) (ht : t < np) (h0 : 0 ≤ be (co t).toNat) (hz : beaR sz be (bdN co np t) z) : beaR sz be (bdN co np (t + 1)) (max z (be (co t).toNat + 1)) := by
  have hp := (h.1 t ht).2.2
  obtain ⟨a, b⟩ := hz
  refine ⟨fun p q r => ?_, Or.inr ?_⟩
  · rcases (bd_lt h ht r).mp q with c | c
    · have := a p c r
      omega
    · rw [c]
      omega
  · rcases b with ⟨e, f⟩ | ⟨p, q, r, s⟩
    · exact ⟨(co t).toNat, (bd_lt h ht hp).mpr (Or.inr rfl), hp, by omega⟩
    · rcases Int.le_total z (be (co t).toNat + 1) with g | g
      · exact ⟨(co t).toNat, (bd_lt h ht hp).mpr (Or.inr rfl), hp, by omega⟩
      · exact ⟨p, (bd_lt h ht r).mpr (Or.inl q), r, by omega⟩
theorem pl_bea0 {sz co be : Nat → Int} {np : Nat} (h : CdOk sz co np) : beaR sz be (bdN co np 0) 0 := ⟨fun p q r => absurd r (bd_0 h p q), Or.inl ⟨rfl, fun p q => bd_0 h p q⟩⟩
theorem pl_dif {sz co K lst : Nat → Int} {np t kk : Nat} (h : CdOk sz co np) (ht : t < np) (hk : K (co t).toNat = (kk : Int)) (hl : lastR sz K kk (bdN co np t) (lst kk)) : difK sz K (bdN co np (t + 1)) = difK sz K (bdN co np t) + b2i (lst kk = 0) := by
  have hp := (h.1 t ht).2.2
  unfold difK
  rw [cnt_skip (a := (co t).toNat + 1) (bd_le h ht) (fun p a b q => bd_gap h ht p a b q.1)]
  rw [bdN_in ht] at hl ⊢
  by_cases e : lst kk = 0
  · rw [b2i_t e, cnt_t]
    exact ⟨hp, fun q hq hqp => by rw [hk]; exact (lastR_0 hl).mp e q hq hqp⟩
  · rw [b2i_f e, cnt_f]
    · omega
    · intro f
      exact e ((lastR_0 hl).mpr (fun q hq hqp => by rw [← hk]; exact f.2 q hq hqp))
theorem pl_dif0 {sz co K : Nat → Int} {np : Nat} (h : CdOk sz co np) : difK sz K (bdN co np 0) = 0 := cnt_skip (a := 0) (Nat.zero_le _) (fun p _ b q => bd_0 h p b q.1)
theorem pl_ah {sz co K ah lst : Nat → Int} {np t kk : Nat} (h : CdOk sz co np) (ht : t < np) (hk : K (co t).toNat = (kk : Int)) (hl : lastR sz K kk (bdN co np t) (lst kk)) (ha : ∀ u : Nat, u < bdN co np t → isP sz u → lastR sz K (K u) u (ah u)) : ∀ u : Nat, u < bdN co np (t + 1) → isP sz u → lastR sz K (K u) u (up1 ah (co t).toNat (lst kk) u) := by
  intro u hu hp
  rcases (bd_lt h ht hp).mp hu with c | c
  · rw [bdN_in ht] at c
    rw [up1_n (by omega)]
    exact ha u (by rw [bdN_in ht]; exact c) hp
  · rw [c, up1_s, hk]
    rw [bdN_in ht] at hl
    exact hl
theorem pl_lst {sz co K lst : Nat → Int} {np t kk : Nat} (h : CdOk sz co np) (ht : t < np) (hk : K (co t).toNat = (kk : Int)) (hl : ∀ j : Nat, j < 4096 → lastR sz K j (bdN co np t) (lst j)) : ∀ j : Nat, j < 4096 → lastR sz K j (bdN co np (t + 1)) (up1 lst kk (((co t).toNat : Int) + 1) j) := by
  intro j hj
  have hp := (h.1 t ht).2.2
  have hle := bd_le h ht
  by_cases e : j = kk
  · subst e
    rw [up1_s, ← hk]
    exact lastR_skip (lastR_self hp) hle (fun p a b q => absurd q (bd_gap h ht p a b))
  · rw [up1_n e]
    refine lastR_skip (hl j hj) (by rw [bdN_in ht]; omega) (fun p a b q => ?_)
    rcases (bd_lt h ht q).mp b with c | c
    · omega
    · rw [c, hk]
      omega
theorem mtP_c {sz K be be' : Nat → Int} (h : ∀ p : Nat, isP sz p → be p = be' p) {q p : Nat} (a : mtP sz K be q p) : mtP sz K be' q p := ⟨a.1, a.2.1, a.2.2.1, a.2.2.2.1, by rw [← h q a.2.1, ← h p a.2.2.1]; exact a.2.2.2.2⟩
theorem met_0 {sz co K be : Nat → Int} {np : Nat} (h : CdOk sz co np) : metR sz K be (bdN co np 0) (-1) (-1) := Or.inl ⟨rfl, rfl, fun p q a b => bd_0 h p a b.2.2.1⟩
theorem met_keep {sz co K be : Nat → Int} {np t : Nat} {la ea : Int} (h : CdOk sz co np) (ht : t < np) (hl : la ≠ -1) (hm : metR sz K be (bdN co np t) la ea) : metR sz K be (bdN co np (t + 1)) la ea := by
  rcases hm with ⟨a, -⟩ | ⟨p, q, a, b, c, d, e⟩
  · exact absurd a hl
  · exact Or.inr ⟨p, q, a, b, (bd_lt h ht d.2.2.1).mpr (Or.inl c), d, e⟩
theorem met_non {sz co K be : Nat → Int} {np t : Nat} {la ea : Int} (h : CdOk sz co np) (ht : t < np) (hl : la = -1) (hm : metR sz K be (bdN co np t) la ea) (hn : ∀ u : Nat, ¬ mtP sz K be u (co t).toNat) : metR sz K be (bdN co np (t + 1)) (-1) (-1) := by
  rcases hm with ⟨a, b, c⟩ | ⟨p, q, a, b, c, d, e⟩
  · refine Or.inl ⟨rfl, rfl, fun p q g m => ?_⟩
    rcases (bd_lt h ht m.2.2.1).mp g with r | r
    · exact c p q r m
    · rw [r] at m
      exact hn q m
  · omega
theorem met_new {sz co K be : Nat → Int} {np t u : Nat} {la ea : Int} (h : CdOk sz co np) (ht : t < np) (hl : la = -1) (hm : metR sz K be (bdN co np t) la ea) (hn : mtP sz K be u (co t).toNat) : metR sz K be (bdN co np (t + 1)) ((co t).toNat : Int) (u : Int) := by
  rcases hm with ⟨a, b, c⟩ | ⟨p, q, a, b, c, d, e⟩
  · refine Or.inr ⟨(co t).toNat, u, rfl, rfl, (bd_lt h ht hn.2.2.1).mpr (Or.inr rfl), hn, fun r s g m => ?_⟩
    exact c r s (by rw [bdN_in ht]; exact g) m
  · omega
theorem dsP_bd {sz co K be : Nat → Int} {np t d : Nat} (h : CdOk sz co np) (ht : t < np) : dsP sz K be (bdN co np (t + 1)) d ↔ dsP sz K be (bdN co np t) d ∨ ∃ u : Nat, u < (co t).toNat ∧ isP sz u ∧ K u = K (co t).toNat ∧ aZ (be (co t).toNat - be u) = (d : Int) := by
  constructor
  · rintro ⟨p, q, a, b, c, e, f, g⟩
    rcases (bd_lt h ht e).mp a with r | r
    · exact Or.inl ⟨p, q, r, b, c, e, f, g⟩
    · subst r
      exact Or.inr ⟨q, b, c, f, g⟩
  · rintro (⟨p, q, a, b, c, e, f, g⟩ | ⟨u, a, b, c, e⟩)
    · exact ⟨p, q, (bd_lt h ht e).mpr (Or.inl a), b, c, e, f, g⟩
    · exact ⟨(co t).toNat, u, (bd_lt h ht (h.1 t ht).2.2).mpr (Or.inr rfl), a, b, (h.1 t ht).2.2, c, e⟩
theorem dsP_0 {sz co K be : Nat → Int} {np d : Nat} (h : CdOk sz co np) : ¬ dsP sz K be (bdN co np 0) d := by
  rintro ⟨p, q, a, b, c, e, f, g⟩
  exact bd_0 h p a e
theorem dsP_b {sz K be : Nat → Int} {b d : Nat} {z : Int} (h : ∀ p : Nat, isP sz p → 0 ≤ be p ∧ be p < z) (hd : dsP sz K be b d) : (d : Int) < z := by
  obtain ⟨p, q, a, c, e, f, g, i⟩ := hd
  have h1 := h p f
  have h2 := h q e
  have := aZ_b (a := be p - be q) (n := z - 1) (by omega) (by omega)
  omega
